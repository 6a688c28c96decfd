/-! ===== times, orders ===== -/
set_option maxRecDepth 20000 in
set_option maxHeartbeats 4000000 in
theorem gX9_times_0 {G : td_G} {d : Nat} {Post : td_P} {x1 x2 x3 x4 x5 : Int32} {h : td_H} (K : ((b2i (0 ≤ x1 ∧ x1 < 4)) = 0 → (Post (some (.int (-1))) h)) ∧ (¬ (b2i (0 ≤ x1 ∧ x1 < 4)) = 0 → (((b2i (0 ≤ x2 ∧ x2 < 3)) = 0 → (Post (some (.int (-1))) h)) ∧ (¬ (b2i (0 ≤ x2 ∧ x2 < 3)) = 0 → ((x4 < 1 → (Post (some (.int (-1))) h)) ∧ (¬ x4 < 1 → ((8 < x4 → (Post (some (.int (-1))) h)) ∧ (¬ 8 < x4 → ((¬ (b2i (0 ≤ x5 ∧ x5 < 3)) = 0 → (vp_in x1 4 ∧ (((rfI (h (77 + 2 * ix x1) 1) (h (77 + 2 * ix x1) 2) x2 x3 (2 * x4)) = 0 → td_J G (d + 7) mX9_times Post 72 [(0, .ref 0), (1, .int x1), (2, .int x2), (3, .int x3), (4, .int x4), (5, .int x5), (6, .ref (77 + 2 * ix x1)), (7, .int (rfI (h (77 + 2 * ix x1) 1) (h (77 + 2 * ix x1) 2) x2 x3 (2 * x4))), (8, .int x3)] [] h) ∧ (¬ (rfI (h (77 + 2 * ix x1) 1) (h (77 + 2 * ix x1) 2) x2 x3 (2 * x4)) = 0 → (Post (some (.int (rfI (h (77 + 2 * ix x1) 1) (h (77 + 2 * ix x1) 2) x2 x3 (2 * x4)))) h))))) ∧ ((b2i (0 ≤ x5 ∧ x5 < 3)) = 0 → (Post (some (.int (-1))) h))))))))))) : td_J G (d + 7) mX9_times Post 0 [(0, .ref 0), (1, .int x1), (2, .int x2), (3, .int x3), (4, .int x4), (5, .int x5)] [] h := by
  refine td_iload_n 1 dX9_times_0 rfl ?_
  refine td_iconst (v := 4) dX9_times_1 (by decide) ?_
  refine cl_X9_54 rfl dX9_times_2 (Nat.le_of_ble_eq_true rfl) (c_isIn x1 4) (eR_k ?_)
  refine td_eqs (st2 := [.int (b2i (0 ≤ x1 ∧ x1 < 4))]) rfl ?_
  obtain ⟨Kt, Kf⟩ := K
  refine td_if_eq (tgt := 38) dX9_times_5 (by decide) (fun q5 => ?_) (fun q5 => ?_)
  · have K := Kt q5
    refine td_iconst (v := (-1)) dX9_times_38 (by decide) ?_
    exact td_ireturn rfl dX9_times_39 K
  · have K := Kf q5
    refine td_iload_n 2 dX9_times_8 rfl ?_
    refine td_iconst (v := 3) dX9_times_9 (by decide) ?_
    refine cl_X9_54 rfl dX9_times_10 (Nat.le_of_ble_eq_true rfl) (c_isIn x2 3) (eR_k ?_)
    refine td_eqs (st2 := [.int (b2i (0 ≤ x2 ∧ x2 < 3))]) rfl ?_
    obtain ⟨Kt, Kf⟩ := K
    refine td_if_eq (tgt := 38) dX9_times_13 (by decide) (fun q13 => ?_) (fun q13 => ?_)
    · have K := Kt q13
      refine td_iconst (v := (-1)) dX9_times_38 (by decide) ?_
      exact td_ireturn rfl dX9_times_39 K
    · have K := Kf q13
      refine td_iload 4 dX9_times_16 rfl ?_
      refine td_iconst (v := 1) dX9_times_18 (by decide) ?_
      obtain ⟨Kt, Kf⟩ := K
      refine td_icmp_lt (tgt := 38) dX9_times_19 (by decide) (fun q19 => ?_) (fun q19 => ?_)
      · have K := Kt q19
        refine td_iconst (v := (-1)) dX9_times_38 (by decide) ?_
        exact td_ireturn rfl dX9_times_39 K
      · have K := Kf q19
        refine td_iload 4 dX9_times_22 rfl ?_
        refine td_bipush (v := 8) dX9_times_24 (by decide) ?_
        obtain ⟨Kt, Kf⟩ := K
        refine td_icmp_gt (tgt := 38) dX9_times_26 (by decide) (fun q26 => ?_) (fun q26 => ?_)
        · have K := Kt q26
          refine td_iconst (v := (-1)) dX9_times_38 (by decide) ?_
          exact td_ireturn rfl dX9_times_39 K
        · have K := Kf q26
          refine td_iload 5 dX9_times_29 rfl ?_
          refine td_iconst (v := 3) dX9_times_31 (by decide) ?_
          refine cl_X9_54 rfl dX9_times_32 (Nat.le_of_ble_eq_true rfl) (c_isIn x5 3) (eR_k ?_)
          refine td_eqs (st2 := [.int (b2i (0 ≤ x5 ∧ x5 < 3))]) rfl ?_
          obtain ⟨Kt, Kf⟩ := K
          refine td_if_ne (tgt := 40) dX9_times_35 (by decide) (fun q35 => ?_) (fun q35 => ?_)
          · have K := Kt q35
            refine td_aload_n 0 dX9_times_40 rfl ?_
            refine gf_X9_28 rfl kp_0 dX9_times_41 ?_
            refine td_iload_n 1 dX9_times_44 rfl ?_
            obtain ⟨e45, K⟩ := K
            refine td_aald e45 dX9_times_45 ?_
            refine td_astore (lv2 := [(0, .ref 0), (1, .int x1), (2, .int x2), (3, .int x3), (4, .int x4), (5, .int x5), (6, .ref (77 + 2 * ix x1))]) dX9_times_46 (by decide) rfl ?_
            refine td_aload 6 dX9_times_48 rfl ?_
            refine td_iload_n 2 dX9_times_50 rfl ?_
            refine td_iload_n 3 dX9_times_51 rfl ?_
            refine td_iconst (v := 2) dX9_times_52 (by decide) ?_
            refine td_iload 4 dX9_times_53 rfl ?_
            refine td_imul dX9_times_55 ?_
            refine cl_X9_248 rfl (kd_sh e45) dX9_times_56 (Nat.le_of_ble_eq_true rfl) (c_S_refusal (kd_sh e45) x2 x3 (2 * x4)) (eR_k ?_)
            refine td_eqs (st2 := [.int (rfI (h (77 + 2 * ix x1) 1) (h (77 + 2 * ix x1) 2) x2 x3 (2 * x4))]) rfl ?_
            refine td_istore (lv2 := [(0, .ref 0), (1, .int x1), (2, .int x2), (3, .int x3), (4, .int x4), (5, .int x5), (6, .ref (77 + 2 * ix x1)), (7, .int (rfI (h (77 + 2 * ix x1) 1) (h (77 + 2 * ix x1) 2) x2 x3 (2 * x4)))]) dX9_times_59 (by decide) rfl ?_
            refine td_iload 7 dX9_times_61 rfl ?_
            obtain ⟨Kt, Kf⟩ := K
            refine td_if_eq (tgt := 69) dX9_times_63 (by decide) (fun q63 => ?_) (fun q63 => ?_)
            · have K := Kt q63
              refine td_iload_n 3 dX9_times_69 rfl ?_
              refine td_istore (lv2 := [(0, .ref 0), (1, .int x1), (2, .int x2), (3, .int x3), (4, .int x4), (5, .int x5), (6, .ref (77 + 2 * ix x1)), (7, .int (rfI (h (77 + 2 * ix x1) 1) (h (77 + 2 * ix x1) 2) x2 x3 (2 * x4))), (8, .int x3)]) dX9_times_70 (by decide) rfl ?_
              exact K
            · have K := Kf q63
              refine td_iload 7 dX9_times_66 rfl ?_
              exact td_ireturn rfl dX9_times_68 K
          · have K := Kf q35
            refine td_iconst (v := (-1)) dX9_times_38 (by decide) ?_
            exact td_ireturn rfl dX9_times_39 K
set_option maxRecDepth 20000 in
set_option maxHeartbeats 4000000 in
theorem gX9_times_72 {G : td_G} {d : Nat} {Post : td_P} {fr m : Nat} {pk tk : Nat → Nat} {c : nH} {k6 : Nat} {x1 x2 x3 x4 x5 x7 x8 : Int32} {h : td_H} (hk6 : td_kd k6 = 6) (K : ((x3 + (2 * x4)) ≤ x8 → (dP c 1 h ∧ 12 ≤ c 5 0 ∧ dKn 50 h ∧ (h 43 9 = 0 ∨ (h 43 9 = 1 ∧ enI c 189 h)) ∧ (∀ h134 : td_H, (FrM3 h h134 ∧ dKn 50 h134 ∧ h134 43 9 = 1 ∧ enI c 189 h134) → (wfC c ∧ x3 = nI fr ∧ x4 = nI m ∧ enI c 189 h134 ∧ toI c (k6) fr m pk tk h134 ∧ (∀ h146 : td_H, ((∀ a b, ¬ (a = 43 ∧ b = 10) → h146 a b = h134 a b) ∧ (0 < fb_ct (fun pr => allB (agW c pk tk pr) m) 189 → h146 43 10 = nI (fa_first (fun pr => allB (agW c pk tk pr) m) 189) ∧ fa_first (fun pr => allB (agW c pk tk pr) m) 189 < 189)) → ((¬ x5 = 0 → ((¬ (nI (fb_ct (fun pr => allB (agW c pk tk pr) m) 189)) = 0 → (Post (some (.int (if x5 = 1 then (h146 43 10 / 9) else (1 + jrem (h146 43 10) 9) : Int32))) h146)) ∧ ((nI (fb_ct (fun pr => allB (agW c pk tk pr) m) 189)) = 0 → (Post (some (.int (-4))) h146)))) ∧ (x5 = 0 → (Post (some (.int (nI (fb_ct (fun pr => allB (agW c pk tk pr) m) 189)))) h146)))))))) ∧ (¬ (x3 + (2 * x4)) ≤ x8 → (shL (k6) h ∧ (((b2i (0 ≤ (if b2i (0 ≤ x8 ∧ x8 < h (k6) 2) = 0 then 0 else h (k6 + 1) (ix x8) : Int32) ∧ (if b2i (0 ≤ x8 ∧ x8 < h (k6) 2) = 0 then 0 else h (k6 + 1) (ix x8) : Int32) < h 1 4)) = 0 → (Post (some (.int (-2))) h)) ∧ (¬ (b2i (0 ≤ (if b2i (0 ≤ x8 ∧ x8 < h (k6) 2) = 0 then 0 else h (k6 + 1) (ix x8) : Int32) ∧ (if b2i (0 ≤ x8 ∧ x8 < h (k6) 2) = 0 then 0 else h (k6 + 1) (ix x8) : Int32) < h 1 4)) = 0 → ((¬ (b2i (0 ≤ (if b2i (0 ≤ (x8 + 1) ∧ (x8 + 1) < h (k6) 2) = 0 then 0 else h (k6 + 1) (ix (x8 + 1)) : Int32) ∧ (if b2i (0 ≤ (x8 + 1) ∧ (x8 + 1) < h (k6) 2) = 0 then 0 else h (k6 + 1) (ix (x8 + 1)) : Int32) < 121)) = 0 → td_J G (d + 7) mX9_times Post 72 [(0, .ref 0), (1, .int x1), (2, .int x2), (3, .int x3), (4, .int x4), (5, .int x5), (6, .ref k6), (7, .int x7), (8, .int (x8 + 2))] [] h) ∧ ((b2i (0 ≤ (if b2i (0 ≤ (x8 + 1) ∧ (x8 + 1) < h (k6) 2) = 0 then 0 else h (k6 + 1) (ix (x8 + 1)) : Int32) ∧ (if b2i (0 ≤ (x8 + 1) ∧ (x8 + 1) < h (k6) 2) = 0 then 0 else h (k6 + 1) (ix (x8 + 1)) : Int32) < 121)) = 0 → (Post (some (.int (-2))) h)))))))) : td_J G (d + 7) mX9_times Post 72 [(0, .ref 0), (1, .int x1), (2, .int x2), (3, .int x3), (4, .int x4), (5, .int x5), (6, .ref k6), (7, .int x7), (8, .int x8)] [] h := by
  refine td_iload 8 dX9_times_72 rfl ?_
  refine td_iload_n 3 dX9_times_74 rfl ?_
  refine td_iconst (v := 2) dX9_times_75 (by decide) ?_
  refine td_iload 4 dX9_times_76 rfl ?_
  refine td_imul dX9_times_78 ?_
  refine td_iadd dX9_times_79 ?_
  obtain ⟨Kt, Kf⟩ := K
  refine td_icmp_ge (tgt := 126) dX9_times_80 (by decide) (fun q80 => ?_) (fun q80 => ?_)
  · have K := Kt q80
    refine td_aload_n 0 dX9_times_126 rfl ?_
    refine gf_X9_49 rfl kp_0 dX9_times_127 ?_
    refine td_aload_n 0 dX9_times_130 rfl ?_
    refine gf_X9_12 rfl kp_0 dX9_times_131 ?_
    obtain ⟨e134_0, K⟩ := K
    obtain ⟨e134_1, K⟩ := K
    obtain ⟨e134_2, K⟩ := K
    obtain ⟨e134_3, K⟩ := K
    refine cl_X9_255 rfl kp_43 dX9_times_134 (Nat.le_of_ble_eq_true rfl) (c_R_ends e134_0 e134_1 e134_2 e134_3) ?_
    rintro _ h134 ⟨rfl, f134⟩
    have K := K h134 f134
    refine td_eqs (st2 := []) rfl ?_
    refine td_aload_n 0 dX9_times_137 rfl ?_
    refine gf_X9_49 rfl kp_0 dX9_times_138 ?_
    refine td_aload 6 dX9_times_141 rfl ?_
    refine td_iload_n 3 dX9_times_143 rfl ?_
    refine td_iload 4 dX9_times_144 rfl ?_
    obtain ⟨e146_0, K⟩ := K
    obtain ⟨e146_1, K⟩ := K
    obtain ⟨e146_2, K⟩ := K
    obtain ⟨e146_3, K⟩ := K
    obtain ⟨e146_4, K⟩ := K
    refine cl_X9_258 rfl kp_43 dX9_times_146 (Nat.le_of_ble_eq_true rfl) (c_R_count hk6 pk tk fr m x3 x4 e146_0 e146_1 e146_2 e146_3 e146_4) ?_
    rintro _ h146 ⟨rfl, f146⟩
    have K := K h146 f146
    refine td_eqs (st2 := [.int (nI (fb_ct (fun pr => allB (agW c pk tk pr) m) 189))]) rfl ?_
    refine td_istore (lv2 := [(0, .ref 0), (1, .int x1), (2, .int x2), (3, .int x3), (4, .int x4), (5, .int x5), (6, .ref k6), (7, .int x7), (8, .int (nI (fb_ct (fun pr => allB (agW c pk tk pr) m) 189)))]) dX9_times_149 (by decide) rfl ?_
    refine td_iload 5 dX9_times_151 rfl ?_
    obtain ⟨Kt, Kf⟩ := K
    refine td_if_ne (tgt := 159) dX9_times_153 (by decide) (fun q153 => ?_) (fun q153 => ?_)
    · have K := Kt q153
      refine td_iload 8 dX9_times_159 rfl ?_
      obtain ⟨Kt, Kf⟩ := K
      refine td_if_ne (tgt := 167) dX9_times_161 (by decide) (fun q161 => ?_) (fun q161 => ?_)
      · have K := Kt q161
        refine td_iload 5 dX9_times_167 rfl ?_
        refine td_iconst (v := 1) dX9_times_169 (by decide) ?_
        have KJ190 : td_J G (d + 7) mX9_times Post 190 [(0, .ref 0), (1, .int x1), (2, .int x2), (3, .int x3), (4, .int x4), (5, .int x5), (6, .ref k6), (7, .int x7), (8, .int (nI (fb_ct (fun pr => allB (agW c pk tk pr) m) 189)))] [.int (if x5 = 1 then (h146 43 10 / 9) else (1 + jrem (h146 43 10) 9) : Int32)] h146 := by
          exact td_ireturn rfl dX9_times_190 K
        refine td_icmp_ne (tgt := 183) dX9_times_170 (by decide) (fun q170 => ?_) (fun q170 => ?_)
        · skip
          refine td_aload_n 0 dX9_times_183 rfl ?_
          refine gf_X9_49 rfl kp_0 dX9_times_184 ?_
          refine cl_X9_265 rfl kp_43 dX9_times_187 (Nat.le_of_ble_eq_true rfl) (c_R_fDrag) (eR_k ?_)
          refine td_eqs (st2 := [.int (1 + jrem (h146 43 10) 9)]) rfl ?_
          exact td_to KJ190 rfl (by rw [show (if x5 = 1 then (h146 43 10 / 9) else (1 + jrem (h146 43 10) 9) : Int32) = _ from if_neg q170]) rfl
        · skip
          refine td_aload_n 0 dX9_times_173 rfl ?_
          refine gf_X9_49 rfl kp_0 dX9_times_174 ?_
          refine cl_X9_262 rfl kp_43 dX9_times_177 (Nat.le_of_ble_eq_true rfl) (c_R_fMotor) (eR_k ?_)
          refine td_eqs (st2 := [.int (h146 43 10 / 9)]) rfl ?_
          refine td_goto (tgt := 190) dX9_times_180 (by decide) ?_
          exact td_to KJ190 rfl (by rw [show (if x5 = 1 then (h146 43 10 / 9) else (1 + jrem (h146 43 10) 9) : Int32) = _ from if_pos q170]) rfl
      · have K := Kf q161
        refine td_bipush (v := (-4)) dX9_times_164 (by decide) ?_
        exact td_ireturn rfl dX9_times_166 K
    · have K := Kf q153
      refine td_iload 8 dX9_times_156 rfl ?_
      exact td_ireturn rfl dX9_times_158 K
  · have K := Kf q80
    refine td_aload_n 0 dX9_times_83 rfl ?_
    refine gf_X9_12 rfl kp_0 dX9_times_84 ?_
    refine td_aload 6 dX9_times_87 rfl ?_
    refine td_iload 8 dX9_times_89 rfl ?_
    obtain ⟨e91_0, K⟩ := K
    refine cl_X9_252 rfl hk6 dX9_times_91 (Nat.le_of_ble_eq_true rfl) (c_S_get hk6 x8 e91_0) (eR_k ?_)
    refine td_eqs (st2 := [.int (if b2i (0 ≤ x8 ∧ x8 < h (k6) 2) = 0 then 0 else h (k6 + 1) (ix x8) : Int32), .ref 1]) rfl ?_
    refine cl_X9_88 rfl kp_1 dX9_times_94 (Nat.le_of_ble_eq_true rfl) (c_P_has kp_1 (if b2i (0 ≤ x8 ∧ x8 < h (k6) 2) = 0 then 0 else h (k6 + 1) (ix x8) : Int32)) (eR_k ?_)
    refine td_eqs (st2 := [.int (b2i (0 ≤ (if b2i (0 ≤ x8 ∧ x8 < h (k6) 2) = 0 then 0 else h (k6 + 1) (ix x8) : Int32) ∧ (if b2i (0 ≤ x8 ∧ x8 < h (k6) 2) = 0 then 0 else h (k6 + 1) (ix x8) : Int32) < h 1 4))]) rfl ?_
    obtain ⟨Kt, Kf⟩ := K
    refine td_if_eq (tgt := 117) dX9_times_97 (by decide) (fun q97 => ?_) (fun q97 => ?_)
    · have K := Kt q97
      refine td_bipush (v := (-2)) dX9_times_117 (by decide) ?_
      exact td_ireturn rfl dX9_times_119 K
    · have K := Kf q97
      refine td_aload 6 dX9_times_100 rfl ?_
      refine td_iload 8 dX9_times_102 rfl ?_
      refine td_iconst (v := 1) dX9_times_104 (by decide) ?_
      refine td_iadd dX9_times_105 ?_
      refine cl_X9_252 rfl hk6 dX9_times_106 (Nat.le_of_ble_eq_true rfl) (c_S_get hk6 (x8 + 1) e91_0) (eR_k ?_)
      refine td_eqs (st2 := [.int (if b2i (0 ≤ (x8 + 1) ∧ (x8 + 1) < h (k6) 2) = 0 then 0 else h (k6 + 1) (ix (x8 + 1)) : Int32)]) rfl ?_
      refine td_bipush (v := 121) dX9_times_109 (by decide) ?_
      refine cl_X9_54 rfl dX9_times_111 (Nat.le_of_ble_eq_true rfl) (c_isIn (if b2i (0 ≤ (x8 + 1) ∧ (x8 + 1) < h (k6) 2) = 0 then 0 else h (k6 + 1) (ix (x8 + 1)) : Int32) 121) (eR_k ?_)
      refine td_eqs (st2 := [.int (b2i (0 ≤ (if b2i (0 ≤ (x8 + 1) ∧ (x8 + 1) < h (k6) 2) = 0 then 0 else h (k6 + 1) (ix (x8 + 1)) : Int32) ∧ (if b2i (0 ≤ (x8 + 1) ∧ (x8 + 1) < h (k6) 2) = 0 then 0 else h (k6 + 1) (ix (x8 + 1)) : Int32) < 121))]) rfl ?_
      obtain ⟨Kt, Kf⟩ := K
      refine td_if_ne (tgt := 120) dX9_times_114 (by decide) (fun q114 => ?_) (fun q114 => ?_)
      · have K := Kt q114
        refine td_iinc 8 (v := x8 + 2) (lv2 := [(0, .ref 0), (1, .int x1), (2, .int x2), (3, .int x3), (4, .int x4), (5, .int x5), (6, .ref k6), (7, .int x7), (8, .int (x8 + 2))]) dX9_times_120 rfl (congrArg (x8 + ·) (by decide)) (by decide) rfl ?_
        refine td_goto (tgt := 72) dX9_times_123 (by decide) ?_
        exact K
      · have K := Kf q114
        refine td_bipush (v := (-2)) dX9_times_117 (by decide) ?_
        exact td_ireturn rfl dX9_times_119 K
def okTi (x1 x2 x4 x5 : Int32) : Prop := (0 ≤ x1 ∧ x1 < 4) ∧ (0 ≤ x2 ∧ x2 < 3) ∧ (¬ x4 < 1 ∧ ¬ 8 < x4) ∧ (0 ≤ x5 ∧ x5 < 3)
def gdB (g : nH) (S : Nat → Nat → Int32) (k f j : Nat) : Bool := decide (isP g (S k (2 + (f + 2 * j)))) && decide (0 ≤ S k (2 + (f + 2 * j + 1)) ∧ S k (2 + (f + 2 * j + 1)) < 121)
def pkT (S : Nat → Nat → Int32) (k f j : Nat) : Nat := ix (S k (2 + (f + 2 * j)))
def tkT (S : Nat → Nat → Int32) (k f j : Nat) : Nat := ix (S k (2 + (f + 2 * j + 1)))
def agT (g : nH) (S : Nat → Nat → Int32) (k f n pr : Nat) : Bool := allB (agW g (pkT S k f) (tkT S k f) pr) n
def aTim (g : nH) (S : Nat → Nat → Int32) (k f n : Nat) (y : Int32) : Int32 := if y = 0 then nI (fb_ct (agT g S k f n) 189) else if fb_ct (agT g S k f n) 189 = 0 then -4 else if y = 1 then nI (fa_first (agT g S k f n) 189 / 9) else nI (1 + fa_first (agT g S k f n) 189 % 9)
theorem pr_9 {k : Nat} (h : k < 189) : nI k / 9 = nI (k / 9) ∧ 1 + jrem (nI k) 9 = nI (1 + k % 9) := (by decide +kernel : ∀ k, k < 189 → nI k / 9 = nI (k / 9) ∧ 1 + jrem (nI k) 9 = nI (1 + k % 9)) k h
theorem allB_s (p : Nat → Bool) (n : Nat) : allB p (n + 1) = true ↔ allB p n = true ∧ p n = true := by
  rw [allB_iff, allB_iff]
  constructor
  · intro h
    exact ⟨fun i hi => h i (by omega), h n (by omega)⟩
  · rintro ⟨h1, h2⟩ i hi
    by_cases e : i = n
    · rw [e]; exact h2
    · exact h1 i (by omega)
theorem D_times {G : td_G} {d : Nat} {h : td_H} {s : gS} (x1 x2 x3 x4 x5 : Int32) (I : DI s h) : (okTi x1 x2 x4 x5 → rfS s.2.2.2 x1 x2 x3 (2 * x4) = 0 → td_C G (d + 7) mX9_times [.ref 0, .int x1, .int x2, .int x3, .int x4, .int x5] h (dPost (if allB (gdB s.1 s.2.2.2 (ix x1) (ix x3)) (ix x4) = true then aTim s.1 s.2.2.2 (ix x1) (ix x3) (ix x4) x5 else -2) s h)) ∧ (okTi x1 x2 x4 x5 → ¬ rfS s.2.2.2 x1 x2 x3 (2 * x4) = 0 → td_C G (d + 7) mX9_times [.ref 0, .int x1, .int x2, .int x3, .int x4, .int x5] h (dPost (rfS s.2.2.2 x1 x2 x3 (2 * x4)) s h)) ∧ (¬ okTi x1 x2 x4 x5 → td_C G (d + 7) mX9_times [.ref 0, .int x1, .int x2, .int x3, .int x4, .int x5] h (dPost (-1) s h)) := by
  have e4 : h 1 4 = nI (s.1 1 0) := I.1.1.2.2.1
  have hn := I.1.1.1.n
  have bad : (some (Value.int (-1)) = some (.int (-1)) ∧ DI s h ∧ FM h h) := ⟨rfl, I, FM.rf h⟩
  refine ⟨fun ok h0 => ?_, fun ok h0 => ?_, fun nk => ?_⟩
  · obtain ⟨o1, o2, o4, o5⟩ := ok
    obtain ⟨k, hk, rfl⟩ := in_n (n := 4) (by decide) o1
    obtain ⟨n, n1, n8, rfl, en, v9⟩ := ty_in o4
    have ek : ix (nI k) = k := ixn (by omega)
    have vk : vp_in (nI k) 4 := vp_in_nI hk (by decide)
    have k6 : td_kd (77 + 2 * k) = 6 := by have z := kd_sh vk; rw [ek] at z; exact z
    obtain ⟨q1, q2, q3⟩ := I.1.2.2.2.2.1 k hk
    obtain ⟨-, N, hN, eN⟩ := I.1.2.2.2.2.2.1 k hk
    unfold rfS at h0
    have e2n : 2 * nI n = nI (2 * n) := by rw [show (2 : Int32) = nI 2 from rfl, pk_mul]
    rw [ek] at h0 ⊢
    rw [en]
    obtain ⟨f, rfl, hf⟩ := rf_in (n := 2 * n) hN (by omega) (by rw [← eN, ← e2n]; exact h0)
    rw [ixn (i := f) (by omega)]
    refine td_entry rfl (Nat.le_of_ble_eq_true rfl) rfl (gX9_times_0 ⟨fun y => absurd o1 (bz y), fun _ => ⟨fun y => absurd o2 (bz y), fun _ => ⟨fun y => absurd y o4.1, fun _ => ⟨fun y => absurd y o4.2, fun _ => ⟨fun _ => ⟨vk, ?_⟩, fun y => absurd o5 (bz y)⟩⟩⟩⟩⟩)
    rw [ek, q1, q2]
    refine ⟨fun _ => ?_, fun y => absurd h0 y⟩
    rw [h0]
    generalize hg : s.1 = g at *
    generalize hS : s.2.2.2 = S at *
    have loop : ∀ m j, j + m = n → allB (gdB g S k f) j = true → td_J G (d + 7) mX9_times (dPost (if allB (gdB g S k f) n = true then aTim g S k f n x5 else -2) s h) 72 [(0, .ref 0), (1, .int (nI k)), (2, .int x2), (3, .int (nI f)), (4, .int (nI n)), (5, .int x5), (6, .ref (77 + 2 * k)), (7, .int 0), (8, .int (nI (f + 2 * j)))] [] h := by
      intro m
      induction m with
      | zero =>
        intro j hj hall
        rw [Nat.add_zero] at hj
        subst hj
        rw [if_pos hall]
        refine gX9_times_72 (c := g) (fr := f) (m := j) (pk := pkT S k f) (tk := tkT S k f) k6 ?_
        rw [e2n, nI_add]
        refine ⟨fun _ => ⟨by have := I.1.1; rw [hg] at this; exact this, by have := I.1.2.1; rw [hg] at this; exact this, I.1.2.2.2.2.2.2.2, by have := I.2.2.2.2.1; rw [hg] at this; exact this, fun h2 hh => ?_⟩, fun y => absurd (nle_of y) (by omega)⟩
        obtain ⟨I2, F2⟩ := I.m3 hh.1 hh.2.1 hh.2.2.1 (by rw [hg]; exact hh.2.2.2)
        have wf : wfC g := by have := I.1.1.1; rw [hg] at this; exact this
        have T : toI g (77 + 2 * k) f j (pkT S k f) (tkT S k f) h2 := by
          refine ⟨⟨N, hN, by rw [hh.1 _ _ (by omega), q2, eN], hf⟩, fun i hi => ?_⟩
          have gd := allB_iff.mp hall i hi
          unfold gdB at gd
          rw [Bool.and_eq_true, decide_eq_true_eq, decide_eq_true_eq] at gd
          obtain ⟨p, hp, e1, ep, -⟩ := isP_of wf gd.1
          obtain ⟨t, ht, e2⟩ := in_n (n := 121) (by decide) gd.2
          have et : ix (nI t) = t := ixn (by omega)
          unfold pkT tkT
          rw [hh.1 _ _ (by omega), hh.1 _ _ (by omega), q3 _ (by omega), q3 _ (by omega), ep, e2, et, e1]
          exact ⟨rfl, hp, rfl, by omega⟩
        refine ⟨wf, rfl, rfl, hh.2.2.2, T, fun h3 h33 => ?_⟩
        obtain ⟨I3, F3⟩ := I2.m5 (h' := h3) (fun a b z => h33.1 a b (by omega)) (hh.2.1.fr (fun a b _ _ => h33.1 a b (by omega)))
        have F : FM h h3 := fun a b z => (F3 a b z).trans (F2 a b z)
        have hc : fb_ct (agT g S k f j) 189 ≤ 189 := fb_ct_le _ _
        have h44 := h33.2
        change (0 < fb_ct (agT g S k f j) 189 → h3 43 10 = nI (fa_first (agT g S k f j) 189) ∧ fa_first (agT g S k f j) 189 < 189) at h44
        show (¬ x5 = 0 → (¬ nI (fb_ct (agT g S k f j) 189) = 0 → _) ∧ (nI (fb_ct (agT g S k f j) 189) = 0 → _)) ∧ (x5 = 0 → _)
        unfold aTim
        refine ⟨fun y5 => ⟨fun y => ⟨?_, I3, F⟩, fun y => ⟨?_, I3, F⟩⟩, fun y5 => ⟨?_, I3, F⟩⟩
        · have pos : 0 < fb_ct (agT g S k f j) 189 := Nat.pos_of_ne_zero (fun z => y (by rw [z]; rfl))
          obtain ⟨ef, hf2⟩ := h44 pos
          obtain ⟨p1, p2⟩ := pr_9 hf2
          rw [ef, p1, p2, if_neg y5, if_neg (show ¬ fb_ct (agT g S k f j) 189 = 0 by omega)]
        · have z : fb_ct (agT g S k f j) 189 = 0 := eq_of (b := 0) y
          rw [if_neg y5, if_pos z]
        · rw [if_pos y5]; rfl
      | succ m ih =>
        intro j hj hall
        refine gX9_times_72 (c := g) (fr := f) (m := n) (pk := pkT S k f) (tk := tkT S k f) k6 ?_
        have in1 : (0 : Int32) ≤ nI (f + 2 * j) ∧ nI (f + 2 * j) < nI N := ⟨(nI_leI (a := 0) (by decide) (by omega)).mpr (Nat.zero_le _), nI_lt (by omega) (by omega)⟩
        have in2 : (0 : Int32) ≤ nI (f + 2 * j + 1) ∧ nI (f + 2 * j + 1) < nI N := ⟨(nI_leI (a := 0) (by decide) (by omega)).mpr (Nat.zero_le _), nI_lt (by omega) (by omega)⟩
        rw [e2n, nI_add, nI_1 (f + 2 * j), q2, eN, b2i_ite, if_pos in1, b2i_ite, if_pos in2, ixn (i := f + 2 * j) (by omega), ixn (i := f + 2 * j + 1) (by omega), q3 _ (by omega), q3 _ (by omega), e4]
        refine ⟨fun y => absurd (le_of y) (by omega), fun _ => ⟨⟨N, hN, by rw [q2, eN]⟩, fun y => ?_, fun y => ⟨fun z => ?_, fun z => ?_⟩⟩⟩
        · have nb : ¬ allB (gdB g S k f) n = true := fun w => by
            have gd := allB_iff.mp w j (by omega)
            unfold gdB at gd
            rw [Bool.and_eq_true, decide_eq_true_eq, decide_eq_true_eq] at gd
            exact bz y gd.1
          rw [if_neg nb]
          exact ⟨rfl, I, FM.rf h⟩
        · refine td_to (ih (j + 1) (by omega) ((allB_s _ _).mpr ⟨hall, ?_⟩)) ?_ rfl rfl
          · unfold gdB
            rw [Bool.and_eq_true, decide_eq_true_eq, decide_eq_true_eq]
            exact ⟨bnz y, bnz z⟩
          · rw [show (2 : Int32) = nI 2 from rfl, nI_add, show f + 2 * j + 2 = f + 2 * (j + 1) by omega]
        · have nb : ¬ allB (gdB g S k f) n = true := fun w => by
            have gd := allB_iff.mp w j (by omega)
            unfold gdB at gd
            rw [Bool.and_eq_true, decide_eq_true_eq, decide_eq_true_eq] at gd
            exact bz z gd.2
          rw [if_neg nb]
          exact ⟨rfl, I, FM.rf h⟩
    exact loop n 0 (Nat.zero_add n) rfl
  · obtain ⟨o1, o2, o4, o5⟩ := ok
    obtain ⟨k, hk, rfl⟩ := in_n (n := 4) (by decide) o1
    have ek : ix (nI k) = k := ixn (by omega)
    obtain ⟨q1, q2, q3⟩ := I.1.2.2.2.2.1 k hk
    unfold rfS at h0 ⊢
    rw [ek] at h0 ⊢
    refine td_entry rfl (Nat.le_of_ble_eq_true rfl) rfl (gX9_times_0 ⟨fun y => absurd o1 (bz y), fun _ => ⟨fun y => absurd o2 (bz y), fun _ => ⟨fun y => absurd y o4.1, fun _ => ⟨fun y => absurd y o4.2, fun _ => ⟨fun _ => ⟨vp_in_nI hk (by decide), ?_⟩, fun y => absurd o5 (bz y)⟩⟩⟩⟩⟩)
    rw [ek, q1, q2]
    exact ⟨fun y => absurd y h0, fun _ => ⟨rfl, I, FM.rf h⟩⟩
  · exact td_entry rfl (Nat.le_of_ble_eq_true rfl) rfl (gX9_times_0 ⟨fun _ => bad, fun y1 => ⟨fun _ => bad, fun y2 => ⟨fun _ => bad, fun y3 => ⟨fun _ => bad, fun y4 => ⟨fun y5 => absurd ⟨bnz y1, bnz y2, ⟨y3, y4⟩, bnz y5⟩ nk, fun _ => bad⟩⟩⟩⟩⟩)
/-! orders -/
set_option maxRecDepth 20000 in
set_option maxHeartbeats 4000000 in
theorem gX9_orders_0 {G : td_G} {d : Nat} {Post : td_P} {v : Nat} {c : nH} {x1 x2 : Int32} {h : td_H} (K : (x1 ≤ 0 → (Post (some (.int (-1))) h)) ∧ (¬ x1 ≤ 0 → ((x1 ≤ ((jshl 1 (h 1 4)) - 1) → (x1 = nI v ∧ v < 4096 ∧ ((6 < (nI (fb_ct (fun i => v.testBit i) 12)) → (Post (some (.int (-1))) h)) ∧ (¬ 6 < (nI (fb_ct (fun i => v.testBit i) 12)) → ((x2 < (-2) → (Post (some (.int (-1))) h)) ∧ (¬ x2 < (-2) → ((x2 < (nI (fb_ct (fun i => v.testBit i) 12)) → (dP c 1 h ∧ 12 ≤ c 5 0 ∧ dKn 50 h ∧ ordV c v ∧ orI c h ∧ (∀ h50 : td_H, (FrM4 h h50 ∧ dKn 50 h50 ∧ h50 69 4 = nI v ∧ obI c v (fct (popc v)) h50) → ((¬ x2 = (-1) → ((¬ x2 = (-2) → (vp_in x2 6 ∧ (Post (some (.int (h50 71 (ix x2)))) h50))) ∧ (x2 = (-2) → (Post (some (.int (h50 69 6))) h50)))) ∧ (x2 = (-1) → (Post (some (.int (h50 69 5))) h50)))))) ∧ (¬ x2 < (nI (fb_ct (fun i => v.testBit i) 12)) → (Post (some (.int (-1))) h))))))))) ∧ (¬ x1 ≤ ((jshl 1 (h 1 4)) - 1) → (Post (some (.int (-1))) h))))) : td_J G (d + 7) mX9_orders Post 0 [(0, .ref 0), (1, .int x1), (2, .int x2)] [] h := by
  refine td_iload_n 1 dX9_orders_0 rfl ?_
  obtain ⟨Kt, Kf⟩ := K
  refine td_if_le (tgt := 15) dX9_orders_1 (by decide) (fun q1 => ?_) (fun q1 => ?_)
  · have K := Kt q1
    refine td_iconst (v := (-1)) dX9_orders_15 (by decide) ?_
    exact td_ireturn rfl dX9_orders_16 K
  · have K := Kf q1
    refine td_iload_n 1 dX9_orders_4 rfl ?_
    refine td_aload_n 0 dX9_orders_5 rfl ?_
    refine gf_X9_12 rfl kp_0 dX9_orders_6 ?_
    refine cl_X9_226 rfl kp_1 dX9_orders_9 (Nat.le_of_ble_eq_true rfl) (c_P_everyone kp_1) (eR_k ?_)
    refine td_eqs (st2 := [.int ((jshl 1 (h 1 4)) - 1), .int x1]) rfl ?_
    obtain ⟨Kt, Kf⟩ := K
    refine td_icmp_le (tgt := 17) dX9_orders_12 (by decide) (fun q12 => ?_) (fun q12 => ?_)
    · have K := Kt q12
      refine td_iload_n 1 dX9_orders_17 rfl ?_
      obtain ⟨e18_0, K⟩ := K
      obtain ⟨e18_1, K⟩ := K
      refine cl_X9_172 rfl dX9_orders_18 (Nat.le_of_ble_eq_true rfl) (c_bitCount x1 v e18_0 e18_1) (eR_k ?_)
      refine td_eqs (st2 := [.int (nI (fb_ct (fun i => v.testBit i) 12))]) rfl ?_
      refine td_istore_n (lv2 := [(0, .ref 0), (1, .int x1), (2, .int x2), (3, .int (nI (fb_ct (fun i => v.testBit i) 12)))]) dX9_orders_21 (by decide) rfl ?_
      refine td_iload_n 3 dX9_orders_22 rfl ?_
      refine td_bipush (v := 6) dX9_orders_23 (by decide) ?_
      obtain ⟨Kt, Kf⟩ := K
      refine td_icmp_gt (tgt := 39) dX9_orders_25 (by decide) (fun q25 => ?_) (fun q25 => ?_)
      · have K := Kt q25
        refine td_iconst (v := (-1)) dX9_orders_39 (by decide) ?_
        exact td_ireturn rfl dX9_orders_40 K
      · have K := Kf q25
        refine td_iload_n 2 dX9_orders_28 rfl ?_
        refine td_bipush (v := (-2)) dX9_orders_29 (by decide) ?_
        obtain ⟨Kt, Kf⟩ := K
        refine td_icmp_lt (tgt := 39) dX9_orders_31 (by decide) (fun q31 => ?_) (fun q31 => ?_)
        · have K := Kt q31
          refine td_iconst (v := (-1)) dX9_orders_39 (by decide) ?_
          exact td_ireturn rfl dX9_orders_40 K
        · have K := Kf q31
          refine td_iload_n 2 dX9_orders_34 rfl ?_
          refine td_iload_n 3 dX9_orders_35 rfl ?_
          obtain ⟨Kt, Kf⟩ := K
          refine td_icmp_lt (tgt := 41) dX9_orders_36 (by decide) (fun q36 => ?_) (fun q36 => ?_)
          · have K := Kt q36
            refine td_aload_n 0 dX9_orders_41 rfl ?_
            refine gf_X9_49 rfl kp_0 dX9_orders_42 ?_
            refine td_aload_n 0 dX9_orders_45 rfl ?_
            refine gf_X9_12 rfl kp_0 dX9_orders_46 ?_
            refine td_iload_n 1 dX9_orders_49 rfl ?_
            obtain ⟨e50_1, K⟩ := K
            obtain ⟨e50_2, K⟩ := K
            obtain ⟨e50_3, K⟩ := K
            obtain ⟨e50_4, K⟩ := K
            obtain ⟨e50_5, K⟩ := K
            refine cl_X9_229 rfl kp_43 dX9_orders_50 (Nat.le_of_ble_eq_true rfl) (c_R_order v x1 e18_0 e50_1 e50_2 e50_3 e50_4 e50_5) ?_
            rintro _ h50 ⟨rfl, f50⟩
            have K := K h50 f50
            refine td_eqs (st2 := []) rfl ?_
            refine td_iload_n 2 dX9_orders_53 rfl ?_
            refine td_iconst (v := (-1)) dX9_orders_54 (by decide) ?_
            obtain ⟨Kt, Kf⟩ := K
            refine td_icmp_ne (tgt := 69) dX9_orders_55 (by decide) (fun q55 => ?_) (fun q55 => ?_)
            · have K := Kt q55
              refine td_iload_n 2 dX9_orders_69 rfl ?_
              refine td_bipush (v := (-2)) dX9_orders_70 (by decide) ?_
              obtain ⟨Kt, Kf⟩ := K
              refine td_icmp_ne (tgt := 86) dX9_orders_72 (by decide) (fun q72 => ?_) (fun q72 => ?_)
              · have K := Kt q72
                refine td_aload_n 0 dX9_orders_86 rfl ?_
                refine gf_X9_49 rfl kp_0 dX9_orders_87 ?_
                refine gf_X9_233 rfl kp_43 dX9_orders_90 ?_
                refine gf_X9_245 rfl kp_69 dX9_orders_93 ?_
                refine td_iload_n 2 dX9_orders_96 rfl ?_
                obtain ⟨e97, K⟩ := K
                refine td_ialdc (j := (ix x2)) kp_71 (by decide) e97 rfl dX9_orders_97 ?_
                exact td_ireturn rfl dX9_orders_98 K
              · have K := Kf q72
                refine td_aload_n 0 dX9_orders_75 rfl ?_
                refine gf_X9_49 rfl kp_0 dX9_orders_76 ?_
                refine gf_X9_233 rfl kp_43 dX9_orders_79 ?_
                refine gf_X9_242 rfl kp_69 dX9_orders_82 ?_
                exact td_ireturn rfl dX9_orders_85 K
            · have K := Kf q55
              refine td_aload_n 0 dX9_orders_58 rfl ?_
              refine gf_X9_49 rfl kp_0 dX9_orders_59 ?_
              refine gf_X9_233 rfl kp_43 dX9_orders_62 ?_
              refine gf_X9_237 rfl kp_69 dX9_orders_65 ?_
              exact td_ireturn rfl dX9_orders_68 K
          · have K := Kf q36
            refine td_iconst (v := (-1)) dX9_orders_39 (by decide) ?_
            exact td_ireturn rfl dX9_orders_40 K
    · have K := Kf q12
      refine td_iconst (v := (-1)) dX9_orders_15 (by decide) ?_
      exact td_ireturn rfl dX9_orders_16 K
def evN (n : Nat) : Nat := 2 ^ n - 1
theorem ev_n {n : Nat} (h : n ≤ 12) : jshl 1 (nI n) - 1 = nI (evN n) := (by decide +kernel : ∀ n, n < 13 → jshl 1 (nI n) - 1 = nI (evN n)) n (by omega)
def okOr (g : nH) (x1 x2 : Int32) : Prop := (¬ x1 ≤ 0 ∧ x1 ≤ nI (evN (g 1 0))) ∧ popc (ix x1) ≤ 6 ∧ (¬ x2 < -2 ∧ x2 < nI (popc (ix x1)))
def aOrd (g : nH) (v : Nat) (y : Int32) : Int32 := if y = -1 then nI (lO g v (bO g v (fct (popc v) - 1))) else if y = -2 then nI (wO g v (bO g v (fct (popc v) - 1))) else nI (wh v (prm (popc v) (bO g v (fct (popc v) - 1)) (ix y)))
theorem ev_v {n : Nat} (hn : n ≤ 12) {x : Int32} (h : ¬ x ≤ 0 ∧ x ≤ nI (evN n)) : ∃ v, 0 < v ∧ v < 2 ^ n ∧ v < 4096 ∧ x = nI v ∧ ix x = v := by
  have p2 : (2 : Nat) ^ n ≤ 4096 := Nat.pow_le_pow_right (n := 2) (by decide) hn
  have p1 : 0 < (2 : Nat) ^ n := Nat.two_pow_pos n
  obtain ⟨h1, h2⟩ := h
  have h0 : 0 ≤ x := (fa_of_lt (fa_of_nle h1)).1
  obtain ⟨e, hb⟩ := nn_of h0
  unfold evN at h2
  rw [e] at h1 h2
  have z1 := nle_of (b := 0) h1
  have z2 := le_of h2
  exact ⟨ix x, z1, by omega, by omega, e, rfl⟩
theorem pop_pos {v : Nat} (h0 : 0 < v) (hv : v < 4096) : 1 ≤ popc v := by
  unfold popc
  refine fb_ct_pos.mpr ?_
  apply Decidable.byContradiction
  intro z
  have e : v = 0 := by
    apply Nat.eq_of_testBit_eq
    intro i
    rw [Nat.zero_testBit]
    by_cases hi : i < 12
    · exact Bool.eq_false_iff.mpr (fun y => z ⟨i, hi, y⟩)
    · exact Nat.testBit_lt_two_pow (Nat.lt_of_lt_of_le hv (by have z := Nat.pow_le_pow_right (n := 2) (by decide) (show 12 ≤ i by omega); exact z))
  omega
theorem m2_ge {x : Int32} (h : ¬ x < -2) (h1 : ¬ x = -1) (h2 : ¬ x = -2) : 0 ≤ x := by
  rw [fa_le, Int32.toInt_zero]
  rw [fa_lt, show (-2 : Int32).toInt = -2 by decide] at h
  rw [fa_eq, show (-1 : Int32).toInt = -1 by decide] at h1
  rw [fa_eq, show (-2 : Int32).toInt = -2 by decide] at h2
  omega
theorem D_orders {G : td_G} {d : Nat} {h : td_H} {s : gS} (x1 x2 : Int32) (I : DI s h) : (okOr s.1 x1 x2 → td_C G (d + 7) mX9_orders [.ref 0, .int x1, .int x2] h (dPost (aOrd s.1 (ix x1) x2) s h)) ∧ (¬ okOr s.1 x1 x2 → td_C G (d + 7) mX9_orders [.ref 0, .int x1, .int x2] h (dPost (-1) s h)) := by
  have e4 : h 1 4 = nI (s.1 1 0) := I.1.1.2.2.1
  have hn := I.1.1.1.n
  have bad : (some (Value.int (-1)) = some (.int (-1)) ∧ DI s h ∧ FM h h) := ⟨rfl, I, FM.rf h⟩
  refine ⟨fun ok => ?_, fun nk => ?_⟩
  · obtain ⟨o1, o2, o3⟩ := ok
    obtain ⟨v, v0, v1, v2, rfl, ev⟩ := ev_v hn o1
    rw [ev] at o2 o3 ⊢
    refine td_entry rfl (Nat.le_of_ble_eq_true rfl) rfl (gX9_orders_0 (c := s.1) (v := v) ?_)
    rw [e4, ev_n hn, show fb_ct (fun i => v.testBit i) 12 = popc v from rfl]
    have oV : ordV s.1 v := ⟨pop_pos v0 v2, o2, v1⟩
    refine ⟨fun y => absurd y o1.1, fun _ => ⟨fun _ => ⟨rfl, v2, fun y => absurd (lt_of (a := 6) y) (by omega), fun _ => ⟨fun y => absurd y o3.1, fun _ => ⟨fun _ => ⟨I.1.1, I.1.2.1, I.1.2.2.2.2.2.2.2, oV, I.2.2.2.2.2, fun h2 hh => ?_⟩, fun y => absurd o3.2 y⟩⟩⟩, fun y => absurd o1.2 y⟩⟩
    obtain ⟨I2, F2⟩ := I.m4 hh.1 hh.2.1 oV v2 hh.2.2.1 hh.2.2.2
    have fp := (fct_pos oV.1 oV.2.1).1
    rcases hh.2.2.2 with z | ⟨-, z1, z2, z3⟩
    · omega
    · unfold aOrd
      refine ⟨fun y1 => ⟨fun y2 => ?_, fun y2 => ⟨?_, I2, F2⟩⟩, fun y1 => ⟨?_, I2, F2⟩⟩
      · have hx := m2_ge o3.1 y1 y2
        obtain ⟨e, hb⟩ := nn_of hx
        have lt := o3.2
        rw [e] at lt
        have lt := lt_of lt
        rw [if_neg y1, if_neg y2, z3 _ lt]
        refine ⟨?_, rfl, I2, F2⟩
        rw [e]; exact vp_in_nI (by omega) (by decide)
      · rw [if_neg y1, if_pos y2, z2]
      · rw [if_pos y1, z1]
  · by_cases o1 : ¬ x1 ≤ 0 ∧ x1 ≤ nI (evN (s.1 1 0))
    · obtain ⟨v, v0, v1, v2, rfl, ev⟩ := ev_v hn o1
      refine td_entry rfl (Nat.le_of_ble_eq_true rfl) rfl (gX9_orders_0 (c := s.1) (v := v) ?_)
      rw [e4, ev_n hn, show fb_ct (fun i => v.testBit i) 12 = popc v from rfl]
      have hp : popc v ≤ 12 := fb_ct_le _ _
      refine ⟨fun _ => bad, fun _ => ⟨fun _ => ⟨rfl, v2, fun _ => bad, fun y3 => ⟨fun _ => bad, fun y4 => ⟨fun y5 => absurd ⟨o1, ?_, y4, ?_⟩ nk, fun _ => bad⟩⟩⟩, fun _ => bad⟩⟩
      · rw [ev]; exact nlt_of (a := 6) y3
      · rw [ev]; exact y5
    · refine td_entry rfl (Nat.le_of_ble_eq_true rfl) rfl (gX9_orders_0 (c := s.1) (v := 0) ?_)
      rw [e4, ev_n hn]
      exact ⟨fun _ => bad, fun y => ⟨fun z => absurd ⟨y, z⟩ o1, fun _ => bad⟩⟩
