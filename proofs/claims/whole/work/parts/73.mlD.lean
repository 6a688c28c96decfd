/-! ===== the model: queries ===== -/
theorem sEnd_in (c : nH) (t s p : Nat) : inSt c (sEndK c (sRun c t) (c 1 0)) s p = inSt c (sRun c t) s p := by unfold inSt; rw [tau_o c t 0 p (by decide)]
theorem sEnd_ip (c : nH) (t i p : Nat) : inP c (sEndK c (sRun c t) (c 1 0)) i p = inP c (sRun c t) i p := by unfold inP; rw [tau_o c t 0 p (by decide), tau_o c t 1 p (by decide)]
set_option maxRecDepth 20000 in
set_option maxHeartbeats 4000000 in
theorem gX10_fate_0 {G : td_G} {d : Nat} {Post : td_P} {c : nH} {x1 x2 : Int32} {h : td_H} (K : ((b2i (0 ≤ (x1).toInt64 ∧ (x1).toInt64 ≤ (((h 86 9) - 1).toInt64))) = 0 → (Post (some (.int (-1))) h)) ∧ (¬ (b2i (0 ≤ (x1).toInt64 ∧ (x1).toInt64 ≤ (((h 86 9) - 1).toInt64))) = 0 → ((¬ (b2i (0 ≤ x2.toInt64 ∧ x2.toInt64 ≤ 3)) = 0 → (wfC c ∧ 12 ≤ c 5 0 ∧ mZ c 86 h ∧ (∀ h23 : td_H, (FrA h h23 ∧ rmC c h23) → (rmC c h23 ∧ (∀ h27 : td_H, (Fr h23 h27 ∧ rmS (sEndK c (sRun c 120) (c 1 0)) h27) → (((¬ x2 = 0 → ((¬ x2 = 1 → ((¬ x2 = 2 → (vp_in x1 12 ∧ True)) ∧ (x2 = 2 → (vp_in x1 12 ∧ True)))) ∧ (x2 = 1 → (vp_in x1 12 ∧ True)))) ∧ (x2 = 0 → (vp_in x1 12 ∧ True))) ∧ (Post (some (.int (if x2 = 0 then (h27 93 (ix x1)) else if x2 = 1 then (h27 94 (ix x1)) else if x2 = 2 then (h27 95 (ix x1)) else (h27 96 (ix x1)) : Int32))) h27))))))) ∧ ((b2i (0 ≤ x2.toInt64 ∧ x2.toInt64 ≤ 3)) = 0 → (Post (some (.int (-1))) h))))) : td_J G (d + 7) mX10_fate Post 0 [(0, .ref 85), (1, .int x1), (2, .int x2)] [] h := by
  refine td_aload_n 0 dX10_fate_0 rfl ?_
  refine td_iload_n 1 dX10_fate_1 rfl ?_
  refine cl_X10_119 rfl kp_85 dX10_fate_2 (Nat.le_of_ble_eq_true rfl) (c_isPerson x1) (eR_k ?_)
  refine td_eqs (st2 := [.int (b2i (0 ≤ (x1).toInt64 ∧ (x1).toInt64 ≤ (((h 86 9) - 1).toInt64)))]) rfl ?_
  obtain ⟨Kt, Kf⟩ := K
  refine td_if_eq (tgt := 20) dX10_fate_5 (by decide) (fun q5 => ?_) (fun q5 => ?_)
  · have K := Kt q5
    refine td_iconst (v := (-1)) dX10_fate_20 (by decide) ?_
    exact td_ireturn rfl dX10_fate_21 K
  · have K := Kf q5
    refine td_iload_n 2 dX10_fate_8 rfl ?_
    refine td_i2l dX10_fate_9 ?_
    refine td_lconst (v := 0) dX10_fate_10 (by decide) ?_
    refine td_ldc2 (v := 3) kw_X10_226 dX10_fate_11 ?_
    refine cl_X10_75 rfl dX10_fate_14 (Nat.le_of_ble_eq_true rfl) (c_in x2.toInt64 0 3) (eR_k ?_)
    refine td_eqs (st2 := [.int (b2i (0 ≤ x2.toInt64 ∧ x2.toInt64 ≤ 3))]) rfl ?_
    obtain ⟨Kt, Kf⟩ := K
    refine td_if_ne (tgt := 22) dX10_fate_17 (by decide) (fun q17 => ?_) (fun q17 => ?_)
    · have K := Kt q17
      refine td_aload_n 0 dX10_fate_22 rfl ?_
      obtain ⟨e23_0, K⟩ := K
      obtain ⟨e23_1, K⟩ := K
      obtain ⟨e23_2, K⟩ := K
      refine cl_X10_104 rfl kp_85 dX10_fate_23 (Nat.le_of_ble_eq_true rfl) (c_asTold c e23_0 e23_1 e23_2) ?_
      rintro _ h23 ⟨rfl, f23⟩
      have K := K h23 f23
      refine td_eqs (st2 := []) rfl ?_
      refine td_aload_n 0 dX10_fate_26 rfl ?_
      obtain ⟨e27_0, K⟩ := K
      refine cl_X10_228 rfl kp_85 dX10_fate_27 (Nat.le_of_ble_eq_true rfl) (c_run c e27_0) ?_
      rintro _ h27 ⟨rfl, f27⟩
      have K := K h27 f27
      refine td_eqs (st2 := []) rfl ?_
      refine td_iload_n 2 dX10_fate_30 rfl ?_
      obtain ⟨Ks31, K⟩ := K
      have KJ77 : td_J G (d + 7) mX10_fate Post 77 [(0, .ref 85), (1, .int x1), (2, .int x2)] [.int (if x2 = 0 then (h27 93 (ix x1)) else if x2 = 1 then (h27 94 (ix x1)) else if x2 = 2 then (h27 95 (ix x1)) else (h27 96 (ix x1)) : Int32)] h27 := by
        exact td_ireturn rfl dX10_fate_77 K
      refine td_if_ne (tgt := 43) dX10_fate_31 (by decide) (fun q31 => ?_) (fun q31 => ?_)
      · have K := Ks31.1 q31
        refine td_iload_n 2 dX10_fate_43 rfl ?_
        refine td_iconst (v := 1) dX10_fate_44 (by decide) ?_
        refine td_icmp_ne (tgt := 57) dX10_fate_45 (by decide) (fun q45 => ?_) (fun q45 => ?_)
        · have K := K.1 q45
          refine td_iload_n 2 dX10_fate_57 rfl ?_
          refine td_iconst (v := 2) dX10_fate_58 (by decide) ?_
          refine td_icmp_ne (tgt := 71) dX10_fate_59 (by decide) (fun q59 => ?_) (fun q59 => ?_)
          · have K := K.1 q59
            refine td_aload_n 0 dX10_fate_71 rfl ?_
            refine gf_X10_40 rfl kp_85 dX10_fate_72 ?_
            refine td_iload_n 1 dX10_fate_75 rfl ?_
            obtain ⟨e76, K⟩ := K
            refine td_ialdc (j := (ix x1)) kp_96 (by decide) e76 rfl dX10_fate_76 ?_
            exact td_to KJ77 rfl (by rw [show (if x2 = 0 then (h27 93 (ix x1)) else if x2 = 1 then (h27 94 (ix x1)) else if x2 = 2 then (h27 95 (ix x1)) else (h27 96 (ix x1)) : Int32) = _ from (if_neg q31).trans ((if_neg q45).trans (if_neg q59))]) rfl
          · have K := K.2 q59
            refine td_aload_n 0 dX10_fate_62 rfl ?_
            refine gf_X10_37 rfl kp_85 dX10_fate_63 ?_
            refine td_iload_n 1 dX10_fate_66 rfl ?_
            obtain ⟨e67, K⟩ := K
            refine td_ialdc (j := (ix x1)) kp_95 (by decide) e67 rfl dX10_fate_67 ?_
            refine td_goto (tgt := 77) dX10_fate_68 (by decide) ?_
            exact td_to KJ77 rfl (by rw [show (if x2 = 0 then (h27 93 (ix x1)) else if x2 = 1 then (h27 94 (ix x1)) else if x2 = 2 then (h27 95 (ix x1)) else (h27 96 (ix x1)) : Int32) = _ from (if_neg q31).trans ((if_neg q45).trans (if_pos q59))]) rfl
        · have K := K.2 q45
          refine td_aload_n 0 dX10_fate_48 rfl ?_
          refine gf_X10_34 rfl kp_85 dX10_fate_49 ?_
          refine td_iload_n 1 dX10_fate_52 rfl ?_
          obtain ⟨e53, K⟩ := K
          refine td_ialdc (j := (ix x1)) kp_94 (by decide) e53 rfl dX10_fate_53 ?_
          refine td_goto (tgt := 77) dX10_fate_54 (by decide) ?_
          exact td_to KJ77 rfl (by rw [show (if x2 = 0 then (h27 93 (ix x1)) else if x2 = 1 then (h27 94 (ix x1)) else if x2 = 2 then (h27 95 (ix x1)) else (h27 96 (ix x1)) : Int32) = _ from (if_neg q31).trans (if_pos q45)]) rfl
      · have K := Ks31.2 q31
        refine td_aload_n 0 dX10_fate_34 rfl ?_
        refine gf_X10_31 rfl kp_85 dX10_fate_35 ?_
        refine td_iload_n 1 dX10_fate_38 rfl ?_
        obtain ⟨e39, K⟩ := K
        refine td_ialdc (j := (ix x1)) kp_93 (by decide) e39 rfl dX10_fate_39 ?_
        refine td_goto (tgt := 77) dX10_fate_40 (by decide) ?_
        exact td_to KJ77 rfl (by rw [show (if x2 = 0 then (h27 93 (ix x1)) else if x2 = 1 then (h27 94 (ix x1)) else if x2 = 2 then (h27 95 (ix x1)) else (h27 96 (ix x1)) : Int32) = _ from if_pos q31]) rfl
    · have K := Kf q17
      refine td_iconst (v := (-1)) dX10_fate_20 (by decide) ?_
      exact td_ireturn rfl dX10_fate_21 K
theorem M_fate {G : td_G} {d : Nat} {h : td_H} {s : gS} (x1 x2 : Int32) (O : OK s) (I : MI s h) : td_C G (d + 7) mX10_fate [.ref 85, .int x1, .int x2] h (mPost (rFate s.1 x1 x2) s h) := by
  have e9 : h 86 9 = nI (s.1 1 0) := I.1.2.1
  have hn := O.1.n
  refine td_entry rfl (Nat.le_of_ble_eq_true rfl) rfl (gX10_fate_0 (c := s.1) ?_)
  rw [e9]
  by_cases ok1 : isP s.1 x1
  · by_cases ok2 : (0 ≤ x2 ∧ x2 < 4)
    · obtain ⟨p, hp, rfl, ep, v12⟩ := isP_of O.1 ok1
      have ea : rFate s.1 (nI p) x2 = aFate s.1 p x2 := by unfold rFate; rw [if_pos ⟨ok1, ok2⟩, ep]
      refine ⟨fun y => absurd ((in64b (by omega)).mpr ok1) (bz y), fun _ => ⟨fun _ => ⟨O.1, O.2.1, I.1, fun h2 hh => ⟨hh.2, fun h3 h33 => ⟨⟨fun _ => ⟨fun _ => ⟨fun _ => ⟨v12, trivial⟩, fun _ => ⟨v12, trivial⟩⟩, fun _ => ⟨v12, trivial⟩⟩, fun _ => ⟨v12, trivial⟩⟩, ?_, I.q (hh.1.N.tr h33.1.N)⟩⟩⟩, fun y => absurd (iq 3 ok2) (bz y)⟩⟩
      obtain ⟨-, -, r2, r3, r4, r5, -, -⟩ := h33.2.1 p (by omega)
      rw [tau_o s.1 120 2 p (by decide)] at r2
      rw [tau_o s.1 120 3 p (by decide)] at r3
      rw [show sEndK s.1 (sRun s.1 120) (s.1 1 0) 4 p = waitE s.1 (sRun s.1 120) p from tau_4 s.1 hp] at r4
      rw [tau_o s.1 120 5 p (by decide)] at r5
      rw [ep, ea, r2, r3, r4, r5]
      rfl
    · have ea : rFate s.1 x1 x2 = -1 := by unfold rFate; rw [if_neg (fun z => ok2 z.2)]
      rw [ea]
      exact ⟨fun _ => ⟨rfl, I, FD.rf h⟩, fun _ => ⟨fun y => absurd (iqn 3 (bnz y)) ok2, fun _ => ⟨rfl, I, FD.rf h⟩⟩⟩
  · have ea : rFate s.1 x1 x2 = -1 := by unfold rFate; rw [if_neg (fun z => ok1 z.1)]
    rw [ea]
    exact ⟨fun _ => ⟨rfl, I, FD.rf h⟩, fun y => absurd ((in64b (by omega)).mp (bnz y)) ok1⟩
set_option maxRecDepth 20000 in
set_option maxHeartbeats 4000000 in
theorem gX10_at_0 {G : td_G} {d : Nat} {Post : td_P} {c σ32 : nH} {x1 x2 : Int32} {h : td_H} (K : ((b2i (0 ≤ x1.toInt64 ∧ x1.toInt64 ≤ 119)) = 0 → (Post (some (.int (-1))) h)) ∧ (¬ (b2i (0 ≤ x1.toInt64 ∧ x1.toInt64 ≤ 119)) = 0 → ((¬ (b2i (0 ≤ x2.toInt64 ∧ x2.toInt64 ≤ 4)) = 0 → (wfC c ∧ 12 ≤ c 5 0 ∧ mZ c 86 h ∧ (∀ h27 : td_H, (FrA h h27 ∧ rmC c h27) → (rmC c h27 ∧ vp_in x1 120 ∧ (∀ h32 : td_H, (Fr h27 h32 ∧ rmS (sEndK c (sRun c (ix x1 + 1)) (c 1 0)) h32) → ((¬ x2 = 0 → (¬ x2 = 1 → ((¬ x2 = 2 → (x2 = 3 → (rmC c h32 ∧ rmS σ32 h32 ∧ vp_in 1 4 ∧ True))) ∧ (x2 = 2 → (rmC c h32 ∧ rmS σ32 h32 ∧ vp_in 2 4 ∧ True))))) ∧ (Post (some (.int (if x2 = 0 then (h32 85 17) else if x2 = 1 then (h32 85 18) else if x2 = 2 then (ms (inSt c σ32 (ix 2))) else if x2 = 3 then (ms (inSt c σ32 (ix 1))) else (h32 85 19) : Int32))) h32))))))) ∧ ((b2i (0 ≤ x2.toInt64 ∧ x2.toInt64 ≤ 4)) = 0 → (Post (some (.int (-1))) h))))) : td_J G (d + 6) mX10_at Post 0 [(0, .ref 85), (1, .int x1), (2, .int x2)] [] h := by
  refine td_iload_n 1 dX10_at_0 rfl ?_
  refine td_i2l dX10_at_1 ?_
  refine td_lconst (v := 0) dX10_at_2 (by decide) ?_
  refine td_ldc2 (v := 119) kw_X10_111 dX10_at_3 ?_
  refine cl_X10_75 rfl dX10_at_6 (Nat.le_of_ble_eq_true rfl) (c_in x1.toInt64 0 119) (eR_k ?_)
  refine td_eqs (st2 := [.int (b2i (0 ≤ x1.toInt64 ∧ x1.toInt64 ≤ 119))]) rfl ?_
  obtain ⟨Kt, Kf⟩ := K
  refine td_if_eq (tgt := 24) dX10_at_9 (by decide) (fun q9 => ?_) (fun q9 => ?_)
  · have K := Kt q9
    refine td_iconst (v := (-1)) dX10_at_24 (by decide) ?_
    exact td_ireturn rfl dX10_at_25 K
  · have K := Kf q9
    refine td_iload_n 2 dX10_at_12 rfl ?_
    refine td_i2l dX10_at_13 ?_
    refine td_lconst (v := 0) dX10_at_14 (by decide) ?_
    refine td_ldc2 (v := 4) kw_X10_122 dX10_at_15 ?_
    refine cl_X10_75 rfl dX10_at_18 (Nat.le_of_ble_eq_true rfl) (c_in x2.toInt64 0 4) (eR_k ?_)
    refine td_eqs (st2 := [.int (b2i (0 ≤ x2.toInt64 ∧ x2.toInt64 ≤ 4))]) rfl ?_
    obtain ⟨Kt, Kf⟩ := K
    refine td_if_ne (tgt := 26) dX10_at_21 (by decide) (fun q21 => ?_) (fun q21 => ?_)
    · have K := Kt q21
      refine td_aload_n 0 dX10_at_26 rfl ?_
      obtain ⟨e27_0, K⟩ := K
      obtain ⟨e27_1, K⟩ := K
      obtain ⟨e27_2, K⟩ := K
      refine cl_X10_104 rfl kp_85 dX10_at_27 (Nat.le_of_ble_eq_true rfl) (c_asTold c e27_0 e27_1 e27_2) ?_
      rintro _ h27 ⟨rfl, f27⟩
      have K := K h27 f27
      refine td_eqs (st2 := []) rfl ?_
      refine td_aload_n 0 dX10_at_30 rfl ?_
      refine td_iload_n 1 dX10_at_31 rfl ?_
      obtain ⟨e32_0, K⟩ := K
      obtain ⟨e32_1, K⟩ := K
      refine cl_X10_223 rfl kp_85 dX10_at_32 (Nat.le_of_ble_eq_true rfl) (c_goTo c x1 e32_0 e32_1) ?_
      rintro _ h32 ⟨rfl, f32⟩
      have K := K h32 f32
      refine td_eqs (st2 := []) rfl ?_
      refine td_iload_n 2 dX10_at_35 rfl ?_
      obtain ⟨Ks36, K⟩ := K
      have KJ88 : td_J G (d + 6) mX10_at Post 88 [(0, .ref 85), (1, .int x1), (2, .int x2)] [.int (if x2 = 0 then (h32 85 17) else if x2 = 1 then (h32 85 18) else if x2 = 2 then (ms (inSt c σ32 (ix 2))) else if x2 = 3 then (ms (inSt c σ32 (ix 1))) else (h32 85 19) : Int32)] h32 := by
        exact td_ireturn rfl dX10_at_88 K
      refine td_if_ne (tgt := 46) dX10_at_36 (by decide) (fun q36 => ?_) (fun q36 => ?_)
      · have K := Ks36 q36
        refine td_iload_n 2 dX10_at_46 rfl ?_
        refine td_iconst (v := 1) dX10_at_47 (by decide) ?_
        refine td_icmp_ne (tgt := 58) dX10_at_48 (by decide) (fun q48 => ?_) (fun q48 => ?_)
        · have K := K q48
          refine td_iload_n 2 dX10_at_58 rfl ?_
          refine td_iconst (v := 2) dX10_at_59 (by decide) ?_
          refine td_icmp_ne (tgt := 71) dX10_at_60 (by decide) (fun q60 => ?_) (fun q60 => ?_)
          · have K := K.1 q60
            refine td_iload_n 2 dX10_at_71 rfl ?_
            refine td_iconst (v := 3) dX10_at_72 (by decide) ?_
            refine td_icmp_ne (tgt := 84) dX10_at_73 (by decide) (fun q73 => ?_) (fun q73 => ?_)
            · skip
              refine td_aload_n 0 dX10_at_84 rfl ?_
              refine gf_X10_170 rfl kp_85 dX10_at_85 ?_
              exact td_to KJ88 rfl (by rw [show (if x2 = 0 then (h32 85 17) else if x2 = 1 then (h32 85 18) else if x2 = 2 then (ms (inSt c σ32 (ix 2))) else if x2 = 3 then (ms (inSt c σ32 (ix 1))) else (h32 85 19) : Int32) = _ from (if_neg q36).trans ((if_neg q48).trans ((if_neg q60).trans (if_neg q73)))]) rfl
            · have K := K q73
              refine td_aload_n 0 dX10_at_76 rfl ?_
              refine td_iconst (v := 1) dX10_at_77 (by decide) ?_
              obtain ⟨e78_0, K⟩ := K
              obtain ⟨e78_1, K⟩ := K
              obtain ⟨e78_2, K⟩ := K
              refine cl_X10_220 rfl kp_85 dX10_at_78 (Nat.le_of_ble_eq_true rfl) (c_inState c σ32 1 e78_0 e78_1 e78_2) (eR_k ?_)
              refine td_eqs (st2 := [.int (ms (inSt c σ32 (ix 1)))]) rfl ?_
              refine td_goto (tgt := 88) dX10_at_81 (by decide) ?_
              exact td_to KJ88 rfl (by rw [show (if x2 = 0 then (h32 85 17) else if x2 = 1 then (h32 85 18) else if x2 = 2 then (ms (inSt c σ32 (ix 2))) else if x2 = 3 then (ms (inSt c σ32 (ix 1))) else (h32 85 19) : Int32) = _ from (if_neg q36).trans ((if_neg q48).trans ((if_neg q60).trans (if_pos q73)))]) rfl
          · have K := K.2 q60
            refine td_aload_n 0 dX10_at_63 rfl ?_
            refine td_iconst (v := 2) dX10_at_64 (by decide) ?_
            obtain ⟨e65_0, K⟩ := K
            obtain ⟨e65_1, K⟩ := K
            obtain ⟨e65_2, K⟩ := K
            refine cl_X10_220 rfl kp_85 dX10_at_65 (Nat.le_of_ble_eq_true rfl) (c_inState c σ32 2 e65_0 e65_1 e65_2) (eR_k ?_)
            refine td_eqs (st2 := [.int (ms (inSt c σ32 (ix 2)))]) rfl ?_
            refine td_goto (tgt := 88) dX10_at_68 (by decide) ?_
            exact td_to KJ88 rfl (by rw [show (if x2 = 0 then (h32 85 17) else if x2 = 1 then (h32 85 18) else if x2 = 2 then (ms (inSt c σ32 (ix 2))) else if x2 = 3 then (ms (inSt c σ32 (ix 1))) else (h32 85 19) : Int32) = _ from (if_neg q36).trans ((if_neg q48).trans (if_pos q60))]) rfl
        · skip
          refine td_aload_n 0 dX10_at_51 rfl ?_
          refine gf_X10_173 rfl kp_85 dX10_at_52 ?_
          refine td_goto (tgt := 88) dX10_at_55 (by decide) ?_
          exact td_to KJ88 rfl (by rw [show (if x2 = 0 then (h32 85 17) else if x2 = 1 then (h32 85 18) else if x2 = 2 then (ms (inSt c σ32 (ix 2))) else if x2 = 3 then (ms (inSt c σ32 (ix 1))) else (h32 85 19) : Int32) = _ from (if_neg q36).trans (if_pos q48)]) rfl
      · skip
        refine td_aload_n 0 dX10_at_39 rfl ?_
        refine gf_X10_176 rfl kp_85 dX10_at_40 ?_
        refine td_goto (tgt := 88) dX10_at_43 (by decide) ?_
        exact td_to KJ88 rfl (by rw [show (if x2 = 0 then (h32 85 17) else if x2 = 1 then (h32 85 18) else if x2 = 2 then (ms (inSt c σ32 (ix 2))) else if x2 = 3 then (ms (inSt c σ32 (ix 1))) else (h32 85 19) : Int32) = _ from if_pos q36]) rfl
    · have K := Kf q21
      refine td_iconst (v := (-1)) dX10_at_24 (by decide) ?_
      exact td_ireturn rfl dX10_at_25 K
theorem M_at {G : td_G} {d : Nat} {h : td_H} {s : gS} (x1 x2 : Int32) (O : OK s) (I : MI s h) : td_C G (d + 6) mX10_at [.ref 85, .int x1, .int x2] h (mPost (rAt s.1 x1 x2) s h) := by
  refine td_entry rfl (Nat.le_of_ble_eq_true rfl) rfl (gX10_at_0 (c := s.1) (σ32 := sEndK s.1 (sRun s.1 (ix x1 + 1)) (s.1 1 0)) ?_)
  by_cases ok1 : (0 ≤ x1 ∧ x1 < 120)
  · by_cases ok2 : (0 ≤ x2 ∧ x2 < 5)
    · obtain ⟨t, ht, rfl⟩ := in_n (n := 120) (by decide) ok1
      have et : ix (nI t) = t := ixn (by omega)
      have v120 : vp_in (nI t) 120 := vp_in_nI ht (by decide)
      have ea : rAt s.1 (nI t) x2 = aAt s.1 t x2 := by unfold rAt; rw [if_pos ⟨ok1, ok2⟩, et]
      rw [et]
      refine ⟨fun y => absurd (iq 119 ok1) (bz y), fun _ => ⟨fun _ => ⟨O.1, O.2.1, I.1, fun h2 hh => ⟨hh.2, v120, fun h3 h33 => ⟨fun _ _ => ⟨fun _ _ => ⟨h33.1.C hh.2, h33.2, by unfold vp_in; decide, trivial⟩, fun _ => ⟨h33.1.C hh.2, h33.2, by unfold vp_in; decide, trivial⟩⟩, ?_, I.q (hh.1.N.tr h33.1.N)⟩⟩⟩, fun y => absurd (iq 4 ok2) (bz y)⟩⟩
      obtain ⟨⟨k0, -⟩, ⟨k1, -⟩, ⟨k2, -⟩, -, -, -⟩ := h33.2.2
      rw [tau_o s.1 (t + 1) 8 0 (by decide)] at k0
      rw [tau_o s.1 (t + 1) 8 1 (by decide)] at k1
      rw [tau_o s.1 (t + 1) 8 2 (by decide)] at k2
      rw [ea, k0, k1, k2, ms_ext (p := inSt s.1 (sEndK s.1 (sRun s.1 (t + 1)) (s.1 1 0)) (ix 2)) (fun p _ => sEnd_in s.1 (t + 1) (ix 2) p), ms_ext (p := inSt s.1 (sEndK s.1 (sRun s.1 (t + 1)) (s.1 1 0)) (ix 1)) (fun p _ => sEnd_in s.1 (t + 1) (ix 1) p)]
      rfl
    · have ea : rAt s.1 x1 x2 = -1 := by unfold rAt; rw [if_neg (fun z => ok2 z.2)]
      rw [ea]
      exact ⟨fun _ => ⟨rfl, I, FD.rf h⟩, fun _ => ⟨fun y => absurd (iqn 4 (bnz y)) ok2, fun _ => ⟨rfl, I, FD.rf h⟩⟩⟩
  · have ea : rAt s.1 x1 x2 = -1 := by unfold rAt; rw [if_neg (fun z => ok1 z.1)]
    rw [ea]
    exact ⟨fun _ => ⟨rfl, I, FD.rf h⟩, fun y => absurd (iqn 119 (bnz y)) ok1⟩
set_option maxRecDepth 20000 in
set_option maxHeartbeats 4000000 in
theorem gX10_within_0 {G : td_G} {d : Nat} {Post : td_P} {c σ28 : nH} {x1 x2 : Int32} {h : td_H} (K : ((b2i (0 ≤ x1.toInt64 ∧ x1.toInt64 ≤ 119)) = 0 → (Post (some (.int (-1))) h)) ∧ (¬ (b2i (0 ≤ x1.toInt64 ∧ x1.toInt64 ≤ 119)) = 0 → ((¬ (b2i (0 ≤ (x2).toInt64 ∧ (x2).toInt64 ≤ (((h 86 0) - 1).toInt64))) = 0 → (wfC c ∧ 12 ≤ c 5 0 ∧ mZ c 86 h ∧ (∀ h23 : td_H, (FrA h h23 ∧ rmC c h23) → (rmC c h23 ∧ vp_in x1 120 ∧ (∀ h28 : td_H, (Fr h23 h28 ∧ rmS (sEndK c (sRun c (ix x1 + 1)) (c 1 0)) h28) → (rmC c h28 ∧ rmS σ28 h28 ∧ vp_in x2 4 ∧ (Post (some (.int (ms (inP c σ28 (ix x2))))) h28))))))) ∧ ((b2i (0 ≤ (x2).toInt64 ∧ (x2).toInt64 ≤ (((h 86 0) - 1).toInt64))) = 0 → (Post (some (.int (-1))) h))))) : td_J G (d + 6) mX10_within Post 0 [(0, .ref 85), (1, .int x1), (2, .int x2)] [] h := by
  refine td_iload_n 1 dX10_within_0 rfl ?_
  refine td_i2l dX10_within_1 ?_
  refine td_lconst (v := 0) dX10_within_2 (by decide) ?_
  refine td_ldc2 (v := 119) kw_X10_111 dX10_within_3 ?_
  refine cl_X10_75 rfl dX10_within_6 (Nat.le_of_ble_eq_true rfl) (c_in x1.toInt64 0 119) (eR_k ?_)
  refine td_eqs (st2 := [.int (b2i (0 ≤ x1.toInt64 ∧ x1.toInt64 ≤ 119))]) rfl ?_
  obtain ⟨Kt, Kf⟩ := K
  refine td_if_eq (tgt := 20) dX10_within_9 (by decide) (fun q9 => ?_) (fun q9 => ?_)
  · have K := Kt q9
    refine td_iconst (v := (-1)) dX10_within_20 (by decide) ?_
    exact td_ireturn rfl dX10_within_21 K
  · have K := Kf q9
    refine td_aload_n 0 dX10_within_12 rfl ?_
    refine td_iload_n 2 dX10_within_13 rfl ?_
    refine cl_X10_98 rfl kp_85 dX10_within_14 (Nat.le_of_ble_eq_true rfl) (c_isPart x2) (eR_k ?_)
    refine td_eqs (st2 := [.int (b2i (0 ≤ (x2).toInt64 ∧ (x2).toInt64 ≤ (((h 86 0) - 1).toInt64)))]) rfl ?_
    obtain ⟨Kt, Kf⟩ := K
    refine td_if_ne (tgt := 22) dX10_within_17 (by decide) (fun q17 => ?_) (fun q17 => ?_)
    · have K := Kt q17
      refine td_aload_n 0 dX10_within_22 rfl ?_
      obtain ⟨e23_0, K⟩ := K
      obtain ⟨e23_1, K⟩ := K
      obtain ⟨e23_2, K⟩ := K
      refine cl_X10_104 rfl kp_85 dX10_within_23 (Nat.le_of_ble_eq_true rfl) (c_asTold c e23_0 e23_1 e23_2) ?_
      rintro _ h23 ⟨rfl, f23⟩
      have K := K h23 f23
      refine td_eqs (st2 := []) rfl ?_
      refine td_aload_n 0 dX10_within_26 rfl ?_
      refine td_iload_n 1 dX10_within_27 rfl ?_
      obtain ⟨e28_0, K⟩ := K
      obtain ⟨e28_1, K⟩ := K
      refine cl_X10_223 rfl kp_85 dX10_within_28 (Nat.le_of_ble_eq_true rfl) (c_goTo c x1 e28_0 e28_1) ?_
      rintro _ h28 ⟨rfl, f28⟩
      have K := K h28 f28
      refine td_eqs (st2 := []) rfl ?_
      refine td_aload_n 0 dX10_within_31 rfl ?_
      refine td_iload_n 2 dX10_within_32 rfl ?_
      obtain ⟨e33_0, K⟩ := K
      obtain ⟨e33_1, K⟩ := K
      obtain ⟨e33_2, K⟩ := K
      refine cl_X10_163 rfl kp_85 dX10_within_33 (Nat.le_of_ble_eq_true rfl) (c_insideOf c σ28 x2 e33_0 e33_1 e33_2) (eR_k ?_)
      refine td_eqs (st2 := [.int (ms (inP c σ28 (ix x2)))]) rfl ?_
      exact td_ireturn rfl dX10_within_36 K
    · have K := Kf q17
      refine td_iconst (v := (-1)) dX10_within_20 (by decide) ?_
      exact td_ireturn rfl dX10_within_21 K
theorem M_within {G : td_G} {d : Nat} {h : td_H} {s : gS} (x1 x2 : Int32) (O : OK s) (I : MI s h) : td_C G (d + 6) mX10_within [.ref 85, .int x1, .int x2] h (mPost (rWith s.1 x1 x2) s h) := by
  have e0 : h 86 0 = nI (s.1 0 0) := I.1.1 0 (by decide)
  have hL := O.1.1
  refine td_entry rfl (Nat.le_of_ble_eq_true rfl) rfl (gX10_within_0 (c := s.1) (σ28 := sEndK s.1 (sRun s.1 (ix x1 + 1)) (s.1 1 0)) ?_)
  rw [e0]
  by_cases ok1 : (0 ≤ x1 ∧ x1 < 120)
  · by_cases ok2 : (0 ≤ x2 ∧ x2 < nI (s.1 0 0))
    · have ea : rWith s.1 x1 x2 = ms (inP s.1 (sRun s.1 (ix x1 + 1)) (ix x2)) := by unfold rWith; rw [if_pos ⟨ok1, ok2⟩]
      obtain ⟨i, hi, ei⟩ := in_n (by omega) ok2
      rw [ea]
      refine ⟨fun y => absurd (iq 119 ok1) (bz y), fun _ => ⟨fun _ => ⟨O.1, O.2.1, I.1, fun h2 hh => ⟨hh.2, (is_in (n := 120) (by decide)).mp ok1, fun h3 h33 => ⟨h33.1.C hh.2, h33.2, by rw [ei]; exact vp_in_nI (by omega) (by decide), ?_, I.q (hh.1.N.tr h33.1.N)⟩⟩⟩, fun y => absurd ((in64b (by omega)).mpr ok2) (bz y)⟩⟩
      rw [ms_ext (fun p _ => sEnd_ip s.1 (ix x1 + 1) (ix x2) p)]
    · have ea : rWith s.1 x1 x2 = -1 := by unfold rWith; rw [if_neg (fun z => ok2 z.2)]
      rw [ea]
      exact ⟨fun _ => ⟨rfl, I, FD.rf h⟩, fun _ => ⟨fun y => absurd ((in64b (by omega)).mp (bnz y)) ok2, fun _ => ⟨rfl, I, FD.rf h⟩⟩⟩
  · have ea : rWith s.1 x1 x2 = -1 := by unfold rWith; rw [if_neg (fun z => ok1 z.1)]
    rw [ea]
    exact ⟨fun _ => ⟨rfl, I, FD.rf h⟩, fun y => absurd (iqn 119 (bnz y)) ok1⟩
set_option maxRecDepth 20000 in
set_option maxHeartbeats 4000000 in
theorem gX10_all_0 {G : td_G} {d : Nat} {Post : td_P} {c : nH} {x1 : Int32} {h : td_H} (K : (¬ (b2i (0 ≤ x1.toInt64 ∧ x1.toInt64 ≤ 6)) = 0 → (wfC c ∧ 12 ≤ c 5 0 ∧ mZ c 86 h ∧ (∀ h15 : td_H, (FrA h h15 ∧ rmC c h15) → (rmC c h15 ∧ (∀ h19 : td_H, (Fr h15 h19 ∧ rmS (sEndK c (sRun c 120) (c 1 0)) h19) → (td_J G (d + 7) mX10_all Post 26 [(0, .ref 85), (1, .int x1), (2, .int 0), (3, .int 0)] [] h19)))))) ∧ ((b2i (0 ≤ x1.toInt64 ∧ x1.toInt64 ≤ 6)) = 0 → (Post (some (.int (-1))) h))) : td_J G (d + 7) mX10_all Post 0 [(0, .ref 85), (1, .int x1)] [] h := by
  refine td_iload_n 1 dX10_all_0 rfl ?_
  refine td_i2l dX10_all_1 ?_
  refine td_lconst (v := 0) dX10_all_2 (by decide) ?_
  refine td_ldc2 (v := 6) kw_X10_231 dX10_all_3 ?_
  refine cl_X10_75 rfl dX10_all_6 (Nat.le_of_ble_eq_true rfl) (c_in x1.toInt64 0 6) (eR_k ?_)
  refine td_eqs (st2 := [.int (b2i (0 ≤ x1.toInt64 ∧ x1.toInt64 ≤ 6))]) rfl ?_
  obtain ⟨Kt, Kf⟩ := K
  refine td_if_ne (tgt := 14) dX10_all_9 (by decide) (fun q9 => ?_) (fun q9 => ?_)
  · have K := Kt q9
    refine td_aload_n 0 dX10_all_14 rfl ?_
    obtain ⟨e15_0, K⟩ := K
    obtain ⟨e15_1, K⟩ := K
    obtain ⟨e15_2, K⟩ := K
    refine cl_X10_104 rfl kp_85 dX10_all_15 (Nat.le_of_ble_eq_true rfl) (c_asTold c e15_0 e15_1 e15_2) ?_
    rintro _ h15 ⟨rfl, f15⟩
    have K := K h15 f15
    refine td_eqs (st2 := []) rfl ?_
    refine td_aload_n 0 dX10_all_18 rfl ?_
    obtain ⟨e19_0, K⟩ := K
    refine cl_X10_228 rfl kp_85 dX10_all_19 (Nat.le_of_ble_eq_true rfl) (c_run c e19_0) ?_
    rintro _ h19 ⟨rfl, f19⟩
    have K := K h19 f19
    refine td_eqs (st2 := []) rfl ?_
    refine td_iconst (v := 0) dX10_all_22 (by decide) ?_
    refine td_istore_n (lv2 := [(0, .ref 85), (1, .int x1), (2, .int 0)]) dX10_all_23 (by decide) rfl ?_
    refine td_iconst (v := 0) dX10_all_24 (by decide) ?_
    refine td_istore_n (lv2 := [(0, .ref 85), (1, .int x1), (2, .int 0), (3, .int 0)]) dX10_all_25 (by decide) rfl ?_
    exact K
  · have K := Kf q9
    refine td_iconst (v := (-1)) dX10_all_12 (by decide) ?_
    exact td_ireturn rfl dX10_all_13 K
set_option maxRecDepth 20000 in
set_option maxHeartbeats 4000000 in
theorem gX10_all_26 {G : td_G} {d : Nat} {Post : td_P} {c σ : nH} {x1 x2 x3 : Int32} {h : td_H} (K : ((h 86 9) ≤ x3 → ((x1 = 0 → (rmC c h ∧ rmS σ h ∧ vp_in 3 4 ∧ (Post (some (.int (nI (onN ((ms (inSt c σ (ix 3)))).toBitVec.toNat ((ms (inSt c σ (ix 3)))).toBitVec.toNat)))) h))) ∧ (x1 = 1 → (12 ≤ c 5 0 ∧ rmC c h ∧ rmS (tau c) h ∧ (Post (some (.int (nI (lastE c)))) h))) ∧ (x1 = 2 → (rmC c h ∧ rmS (tau c) h ∧ (Post (some (.int (nI (wE c)))) h))) ∧ (x1 = 3 → (Post (some (.int (h 85 20))) h)) ∧ (x1 = 4 → (Post (some (.int (h 85 21))) h)) ∧ (x1 = 5 → (Post (some (.int x2)) h)) ∧ (¬ x1 = 0 ∧ ¬ x1 = 1 ∧ ¬ x1 = 2 ∧ ¬ x1 = 3 ∧ ¬ x1 = 4 ∧ ¬ x1 = 5 → (Post (some (.int (h 85 22))) h)))) ∧ (¬ (h 86 9) ≤ x3 → (vp_in x3 12 ∧ (td_J G (d + 7) mX10_all Post 26 [(0, .ref 85), (1, .int x1), (2, .int (x2 + (h 96 (ix x3)))), (3, .int (x3 + 1))] [] h)))) : td_J G (d + 7) mX10_all Post 26 [(0, .ref 85), (1, .int x1), (2, .int x2), (3, .int x3)] [] h := by
  refine td_iload_n 3 dX10_all_26 rfl ?_
  refine td_aload_n 0 dX10_all_27 rfl ?_
  refine gf_X10_7 rfl kp_85 dX10_all_28 ?_
  refine td_bipush (v := 9) dX10_all_31 (by decide) ?_
  refine td_ialdc (j := 9) kp_86 (by decide) (by unfold vp_in; decide) (by decide) dX10_all_33 ?_
  obtain ⟨Kt, Kf⟩ := K
  refine td_icmp_ge (tgt := 52) dX10_all_34 (by decide) (fun q34 => ?_) (fun q34 => ?_)
  · have K := Kt q34
    refine td_iload_n 1 dX10_all_52 rfl ?_
    obtain ⟨K0, K⟩ := K
    by_cases q0 : x1 = 0
    · have K := K0 q0
      refine td_eqs (congrArg (fun z => Value.int z :: []) q0.symm) ?_
      refine td_tsin (tgt := 92) dX10_all_53 (by decide) (by decide) rfl (by decide) ?_
      refine td_aload_n 0 dX10_all_92 rfl ?_
      refine td_iconst (v := 3) dX10_all_93 (by decide) ?_
      obtain ⟨e94_0, K⟩ := K
      obtain ⟨e94_1, K⟩ := K
      obtain ⟨e94_2, K⟩ := K
      refine cl_X10_220 rfl kp_85 dX10_all_94 (Nat.le_of_ble_eq_true rfl) (c_inState c σ 3 e94_0 e94_1 e94_2) (eR_k ?_)
      refine td_eqs (st2 := [.int (ms (inSt c σ (ix 3)))]) rfl ?_
      refine cl_X10_233 rfl dX10_all_97 (Nat.le_of_ble_eq_true rfl) (c_ones (ms (inSt c σ (ix 3)))) (eR_k ?_)
      refine td_eqs (st2 := [.int (nI (onN ((ms (inSt c σ (ix 3)))).toBitVec.toNat ((ms (inSt c σ (ix 3)))).toBitVec.toNat))]) rfl ?_
      exact td_ireturn rfl dX10_all_100 K
    obtain ⟨K1, K⟩ := K
    by_cases q1 : x1 = 1
    · have K := K1 q1
      refine td_eqs (congrArg (fun z => Value.int z :: []) q1.symm) ?_
      refine td_tsin (tgt := 101) dX10_all_53 (by decide) (by decide) rfl (by decide) ?_
      refine td_aload_n 0 dX10_all_101 rfl ?_
      obtain ⟨e102_0, K⟩ := K
      obtain ⟨e102_1, K⟩ := K
      obtain ⟨e102_2, K⟩ := K
      refine cl_X10_236 rfl kp_85 dX10_all_102 (Nat.le_of_ble_eq_true rfl) (c_lastT c e102_0 e102_1 e102_2) (eR_k ?_)
      refine td_eqs (st2 := [.int (nI (lastE c))]) rfl ?_
      exact td_ireturn rfl dX10_all_105 K
    obtain ⟨K2, K⟩ := K
    by_cases q2 : x1 = 2
    · have K := K2 q2
      refine td_eqs (congrArg (fun z => Value.int z :: []) q2.symm) ?_
      refine td_tsin (tgt := 106) dX10_all_53 (by decide) (by decide) rfl (by decide) ?_
      refine td_aload_n 0 dX10_all_106 rfl ?_
      obtain ⟨e107_0, K⟩ := K
      obtain ⟨e107_1, K⟩ := K
      refine cl_X10_239 rfl kp_85 dX10_all_107 (Nat.le_of_ble_eq_true rfl) (c_allW c e107_0 e107_1) (eR_k ?_)
      refine td_eqs (st2 := [.int (nI (wE c))]) rfl ?_
      exact td_ireturn rfl dX10_all_110 K
    obtain ⟨K3, K⟩ := K
    by_cases q3 : x1 = 3
    · have K := K3 q3
      refine td_eqs (congrArg (fun z => Value.int z :: []) q3.symm) ?_
      refine td_tsin (tgt := 111) dX10_all_53 (by decide) (by decide) rfl (by decide) ?_
      refine td_aload_n 0 dX10_all_111 rfl ?_
      refine gf_X10_186 rfl kp_85 dX10_all_112 ?_
      exact td_ireturn rfl dX10_all_115 K
    obtain ⟨K4, K⟩ := K
    by_cases q4 : x1 = 4
    · have K := K4 q4
      refine td_eqs (congrArg (fun z => Value.int z :: []) q4.symm) ?_
      refine td_tsin (tgt := 116) dX10_all_53 (by decide) (by decide) rfl (by decide) ?_
      refine td_aload_n 0 dX10_all_116 rfl ?_
      refine gf_X10_179 rfl kp_85 dX10_all_117 ?_
      exact td_ireturn rfl dX10_all_120 K
    obtain ⟨K5, K⟩ := K
    by_cases q5 : x1 = 5
    · have K := K5 q5
      refine td_eqs (congrArg (fun z => Value.int z :: []) q5.symm) ?_
      refine td_tsin (tgt := 121) dX10_all_53 (by decide) (by decide) rfl (by decide) ?_
      refine td_iload_n 2 dX10_all_121 rfl ?_
      exact td_ireturn rfl dX10_all_122 K
    have K := K ⟨q0, q1, q2, q3, q4, q5⟩
    refine td_tsout (tgt := 123) dX10_all_53 (by have z : ∀ n : Nat, n < 16 → ¬ x1 = nI n → x1.toInt ≠ n := fun n hn e g => e (td_i32 g hn); have z0 := z 0 (by decide) q0; have z1 := z 1 (by decide) q1; have z2 := z 2 (by decide) q2; have z3 := z 3 (by decide) q3; have z4 := z 4 (by decide) q4; have z5 := z 5 (by decide) q5; omega) (by decide) ?_
    refine td_aload_n 0 dX10_all_123 rfl ?_
    refine gf_X10_204 rfl kp_85 dX10_all_124 ?_
    exact td_ireturn rfl dX10_all_127 K
  · have K := Kf q34
    refine td_iload_n 2 dX10_all_37 rfl ?_
    refine td_aload_n 0 dX10_all_38 rfl ?_
    refine gf_X10_40 rfl kp_85 dX10_all_39 ?_
    refine td_iload_n 3 dX10_all_42 rfl ?_
    obtain ⟨e43, K⟩ := K
    refine td_ialdc (j := (ix x3)) kp_96 (by decide) e43 rfl dX10_all_43 ?_
    refine td_iadd dX10_all_44 ?_
    refine td_istore_n (lv2 := [(0, .ref 85), (1, .int x1), (2, .int (x2 + (h 96 (ix x3)))), (3, .int x3)]) dX10_all_45 (by decide) rfl ?_
    refine td_iinc 3 (v := x3 + 1) (lv2 := [(0, .ref 85), (1, .int x1), (2, .int (x2 + (h 96 (ix x3)))), (3, .int (x3 + 1))]) dX10_all_46 rfl (congrArg (x3 + ·) (by decide)) (by decide) rfl ?_
    refine td_goto (tgt := 26) dX10_all_49 (by decide) ?_
    exact K
theorem sm_ct {g : nH} (hn : g 1 0 ≤ 12) : fb_sm (fun p => sRun g 120 5 p) (g 1 0) = fb_ct (cgB g) 12 := by
  have e1 : ∀ n, n ≤ g 1 0 → fb_sm (fun p => sRun g 120 5 p) n = fb_ct (cgB g) n := by
    intro n
    induction n with
    | zero => intro _; rfl
    | succ n ih =>
      intro hl
      rw [fb_sm_succ, fb_ct_succ, ih (by omega)]
      have b5 := run_5 g 120 n
      congr 1
      unfold cgB
      rcases (by omega : sRun g 120 5 n = 0 ∨ sRun g 120 5 n = 1) with z | z
      · rw [z]; simp
      · rw [z]; simp; omega
  rw [e1 _ (Nat.le_refl _)]
  have e2 := fb_ct_split (cgB g) (g 1 0) (12 - g 1 0)
  rw [show g 1 0 + (12 - g 1 0) = 12 by omega] at e2
  have e3 : fb_ct (fun k => cgB g (g 1 0 + k)) (12 - g 1 0) = 0 := fb_ct_zero.mpr (fun k _ => by show (decide (g 1 0 + k < g 1 0) && decide (sRun g 120 5 (g 1 0 + k) = 1)) = false; rw [show decide (g 1 0 + k < g 1 0) = false by simp]; rfl)
  omega
theorem M_all {G : td_G} {d : Nat} {h : td_H} {s : gS} (x1 : Int32) (O : OK s) (I : MI s h) : td_C G (d + 7) mX10_all [.ref 85, .int x1] h (mPost (rAll s.1 x1) s h) := by
  have hn := O.1.n
  refine td_entry rfl (Nat.le_of_ble_eq_true rfl) rfl (gX10_all_0 (c := s.1) ?_)
  by_cases ok1 : (0 ≤ x1 ∧ x1 < 7)
  · refine ⟨fun _ => ⟨O.1, O.2.1, I.1, fun h2 hh => ⟨hh.2, fun h3 h33 => ?_⟩⟩, fun y => absurd (iq 6 ok1) (bz y)⟩
    have Q := I.q (hh.1.N.tr h33.1.N)
    have C3 := h33.1.C hh.2
    have e9 : h3 86 9 = nI (s.1 1 0) := C3.2.2.1
    refine td_for (s.1 1 0) (fun i => [(0, .ref 85), (1, .int x1), (2, .int (nI (fb_sm (fun p => sRun s.1 120 5 p) i))), (3, .int (nI i))]) (fun _ => h3) rfl rfl (fun i hi ih => ?_) ?_
    · refine gX10_all_26 (c := s.1) (σ := tau s.1) ?_
      have r5 := (h33.2.1 i (by omega)).2.2.2.2.2.1
      rw [tau_o s.1 120 5 i (by decide)] at r5
      rw [e9, ixn (i := i) (by omega), r5, nI_add]
      exact ⟨fun y => absurd (le_of y) (by omega), fun _ => ⟨vp_in_nI (by omega) (by decide), td_to ih (by rw [nI_1]; rfl) rfl rfl⟩⟩
    · refine gX10_all_26 (c := s.1) (σ := tau s.1) ?_
      rw [e9, sm_ct hn]
      refine ⟨fun _ => ?_, fun y => absurd (nle_of y) (by omega)⟩
      obtain ⟨-, -, -, k3, k4, k5⟩ := h33.2.2
      rw [tau_o s.1 120 8 3 (by decide)] at k3
      rw [tau_o s.1 120 8 4 (by decide)] at k4
      rw [tau_o s.1 120 8 5 (by decide)] at k5
      unfold rAll
      rw [if_pos ok1]
      refine ⟨fun y => ⟨C3, h33.2, by unfold vp_in; decide, ?_, Q⟩, fun y => ⟨O.2.1, C3, h33.2, ?_, Q⟩, fun y => ⟨C3, h33.2, ?_, Q⟩, fun y => ⟨?_, Q⟩, fun y => ⟨?_, Q⟩, fun y => ⟨?_, Q⟩, fun y => ⟨?_, Q⟩⟩
      · rw [if_pos y, ms_ext (p := inSt s.1 (tau s.1) (ix 3)) (fun p _ => sEnd_in s.1 120 (ix 3) p)]
        unfold ms
        rw [on_v (mk_lt12 _)]
        unfold popc bits
        rw [ct_mk]
        rfl
      · subst y; rw [if_neg (by decide), if_pos rfl]
      · subst y; rw [if_neg (by decide), if_neg (by decide), if_pos rfl]
      · subst y; rw [if_neg (by decide), if_neg (by decide), if_neg (by decide), if_pos rfl, k3]
      · subst y; rw [if_neg (by decide), if_neg (by decide), if_neg (by decide), if_neg (by decide), if_pos rfl, k4]
      · subst y; rw [if_neg (by decide), if_neg (by decide), if_neg (by decide), if_neg (by decide), if_neg (by decide), if_pos rfl]
      · rw [if_neg y.1, if_neg y.2.1, if_neg y.2.2.1, if_neg y.2.2.2.1, if_neg y.2.2.2.2.1, if_neg y.2.2.2.2.2, k5]
  · have ea : rAll s.1 x1 = -1 := by unfold rAll; rw [if_neg ok1]
    rw [ea]
    exact ⟨fun y => absurd (iqn 6 (bnz y)) ok1, fun _ => ⟨rfl, I, FD.rf h⟩⟩
set_option maxRecDepth 20000 in
set_option maxHeartbeats 4000000 in
theorem gX10_shared_0 {G : td_G} {d : Nat} {Post : td_P} {c : nH} {x1 x2 : Int32} {h : td_H} (K : ((b2i (0 ≤ (x1).toInt64 ∧ (x1).toInt64 ≤ (((h 86 9) - 1).toInt64))) = 0 → (Post (some (.int (-1))) h)) ∧ (¬ (b2i (0 ≤ (x1).toInt64 ∧ (x1).toInt64 ≤ (((h 86 9) - 1).toInt64))) = 0 → (((b2i (0 ≤ (x2).toInt64 ∧ (x2).toInt64 ≤ (((h 86 9) - 1).toInt64))) = 0 → (Post (some (.int (-1))) h)) ∧ (¬ (b2i (0 ≤ (x2).toInt64 ∧ (x2).toInt64 ≤ (((h 86 9) - 1).toInt64))) = 0 → ((¬ x1 = x2 → (wfC c ∧ 12 ≤ c 5 0 ∧ mZ c 86 h ∧ (∀ h24 : td_H, (FrA h h24 ∧ rmC c h24) → (rmC c h24 ∧ (∀ h28 : td_H, (Fr h24 h28 ∧ rmS (sEndK c (sRun c 120) (c 1 0)) h28) → (vp_in x1 12 ∧ (Post (some (.int (if (b2i ((jshr (h28 98 (ix x1)) x2) &&& 1 = 1)) = 0 then 0 else 1 : Int32))) h28))))))) ∧ (x1 = x2 → (Post (some (.int (-1))) h))))))) : td_J G (d + 7) mX10_shared Post 0 [(0, .ref 85), (1, .int x1), (2, .int x2)] [] h := by
  refine td_aload_n 0 dX10_shared_0 rfl ?_
  refine td_iload_n 1 dX10_shared_1 rfl ?_
  refine cl_X10_119 rfl kp_85 dX10_shared_2 (Nat.le_of_ble_eq_true rfl) (c_isPerson x1) (eR_k ?_)
  refine td_eqs (st2 := [.int (b2i (0 ≤ (x1).toInt64 ∧ (x1).toInt64 ≤ (((h 86 9) - 1).toInt64)))]) rfl ?_
  obtain ⟨Kt, Kf⟩ := K
  refine td_if_eq (tgt := 21) dX10_shared_5 (by decide) (fun q5 => ?_) (fun q5 => ?_)
  · have K := Kt q5
    refine td_iconst (v := (-1)) dX10_shared_21 (by decide) ?_
    exact td_ireturn rfl dX10_shared_22 K
  · have K := Kf q5
    refine td_aload_n 0 dX10_shared_8 rfl ?_
    refine td_iload_n 2 dX10_shared_9 rfl ?_
    refine cl_X10_119 rfl kp_85 dX10_shared_10 (Nat.le_of_ble_eq_true rfl) (c_isPerson x2) (eR_k ?_)
    refine td_eqs (st2 := [.int (b2i (0 ≤ (x2).toInt64 ∧ (x2).toInt64 ≤ (((h 86 9) - 1).toInt64)))]) rfl ?_
    obtain ⟨Kt, Kf⟩ := K
    refine td_if_eq (tgt := 21) dX10_shared_13 (by decide) (fun q13 => ?_) (fun q13 => ?_)
    · have K := Kt q13
      refine td_iconst (v := (-1)) dX10_shared_21 (by decide) ?_
      exact td_ireturn rfl dX10_shared_22 K
    · have K := Kf q13
      refine td_iload_n 1 dX10_shared_16 rfl ?_
      refine td_iload_n 2 dX10_shared_17 rfl ?_
      obtain ⟨Kt, Kf⟩ := K
      refine td_icmp_ne (tgt := 23) dX10_shared_18 (by decide) (fun q18 => ?_) (fun q18 => ?_)
      · have K := Kt q18
        refine td_aload_n 0 dX10_shared_23 rfl ?_
        obtain ⟨e24_0, K⟩ := K
        obtain ⟨e24_1, K⟩ := K
        obtain ⟨e24_2, K⟩ := K
        refine cl_X10_104 rfl kp_85 dX10_shared_24 (Nat.le_of_ble_eq_true rfl) (c_asTold c e24_0 e24_1 e24_2) ?_
        rintro _ h24 ⟨rfl, f24⟩
        have K := K h24 f24
        refine td_eqs (st2 := []) rfl ?_
        refine td_aload_n 0 dX10_shared_27 rfl ?_
        obtain ⟨e28_0, K⟩ := K
        refine cl_X10_228 rfl kp_85 dX10_shared_28 (Nat.le_of_ble_eq_true rfl) (c_run c e28_0) ?_
        rintro _ h28 ⟨rfl, f28⟩
        have K := K h28 f28
        refine td_eqs (st2 := []) rfl ?_
        refine td_aload_n 0 dX10_shared_31 rfl ?_
        refine gf_X10_46 rfl kp_85 dX10_shared_32 ?_
        refine td_iload_n 1 dX10_shared_35 rfl ?_
        obtain ⟨e36, K⟩ := K
        refine td_ialdc (j := (ix x1)) kp_98 (by decide) e36 rfl dX10_shared_36 ?_
        refine td_iload_n 2 dX10_shared_37 rfl ?_
        refine cl_X10_166 rfl dX10_shared_38 (Nat.le_of_ble_eq_true rfl) (c_has (h28 98 (ix x1)) x2) (eR_k ?_)
        refine td_eqs (st2 := [.int (b2i ((jshr (h28 98 (ix x1)) x2) &&& 1 = 1))]) rfl ?_
        have KJ49 : td_J G (d + 7) mX10_shared Post 49 [(0, .ref 85), (1, .int x1), (2, .int x2)] [.int (if (b2i ((jshr (h28 98 (ix x1)) x2) &&& 1 = 1)) = 0 then 0 else 1 : Int32)] h28 := by
          exact td_ireturn rfl dX10_shared_49 K
        refine td_if_eq (tgt := 48) dX10_shared_41 (by decide) (fun q41 => ?_) (fun q41 => ?_)
        · skip
          refine td_iconst (v := 0) dX10_shared_48 (by decide) ?_
          exact td_to KJ49 rfl (by rw [show (if (b2i ((jshr (h28 98 (ix x1)) x2) &&& 1 = 1)) = 0 then 0 else 1 : Int32) = _ from if_pos q41]) rfl
        · skip
          refine td_iconst (v := 1) dX10_shared_44 (by decide) ?_
          refine td_goto (tgt := 49) dX10_shared_45 (by decide) ?_
          exact td_to KJ49 rfl (by rw [show (if (b2i ((jshr (h28 98 (ix x1)) x2) &&& 1 = 1)) = 0 then 0 else 1 : Int32) = _ from if_neg q41]) rfl
      · have K := Kf q18
        refine td_iconst (v := (-1)) dX10_shared_21 (by decide) ?_
        exact td_ireturn rfl dX10_shared_22 K
theorem M_shared {G : td_G} {d : Nat} {h : td_H} {s : gS} (x1 x2 : Int32) (O : OK s) (I : MI s h) : td_C G (d + 7) mX10_shared [.ref 85, .int x1, .int x2] h (mPost (rShr s.1 x1 x2) s h) := by
  have e9 : h 86 9 = nI (s.1 1 0) := I.1.2.1
  have hn := O.1.n
  refine td_entry rfl (Nat.le_of_ble_eq_true rfl) rfl (gX10_shared_0 (c := s.1) ?_)
  rw [e9]
  by_cases ok : isP s.1 x1 ∧ isP s.1 x2 ∧ x1 ≠ x2
  · have ea : rShr s.1 x1 x2 = (if sRun s.1 120 (20 + ix x1) (ix x2) = 1 then 1 else 0) := by unfold rShr; rw [if_pos ok]
    rw [ea]
    obtain ⟨o1, o2, o3⟩ := ok
    obtain ⟨p, hp, rfl, ep, v12⟩ := isP_of O.1 o1
    obtain ⟨q, hq, rfl, eq, -⟩ := isP_of O.1 o2
    refine ⟨fun y => absurd ((in64b (by omega)).mpr o1) (bz y), fun _ => ⟨fun y => absurd ((in64b (by omega)).mpr o2) (bz y), fun _ => ⟨fun _ => ⟨O.1, O.2.1, I.1, fun h2 hh => ⟨hh.2, fun h3 h33 => ⟨v12, ?_, I.q (hh.1.N.tr h33.1.N)⟩⟩⟩, fun y => absurd y o3⟩⟩⟩
    have r8 := (h33.2.1 p (by omega)).2.2.2.2.2.2.2
    rw [ep, eq, r8, ms_bit _ (by omega), tau_o s.1 120 (20 + p) q (by omega)]
    by_cases z : sRun s.1 120 (20 + p) q = 1
    · simp [z, b2i]
    · simp [z, b2i]
  · have ea : rShr s.1 x1 x2 = -1 := by unfold rShr; rw [if_neg ok]
    rw [ea]
    exact ⟨fun _ => ⟨rfl, I, FD.rf h⟩, fun y => ⟨fun _ => ⟨rfl, I, FD.rf h⟩, fun z => ⟨fun w => absurd ⟨(in64b (by omega)).mp (bnz y), (in64b (by omega)).mp (bnz z), w⟩ ok, fun _ => ⟨rfl, I, FD.rf h⟩⟩⟩⟩
/-! motor -/
set_option maxRecDepth 20000 in
set_option maxHeartbeats 4000000 in
theorem gX10_motor_0 {G : td_G} {d : Nat} {Post : td_P} {c : nH} {x1 : Int32} {h : td_H} (K : (¬ (b2i (0 ≤ x1.toInt64 ∧ x1.toInt64 ≤ 119)) = 0 → (wfC c ∧ 12 ≤ c 5 0 ∧ mZ c 86 h ∧ (∀ h15 : td_H, (FrA h h15 ∧ rmC c h15) → (td_J G (d + 7) mX10_motor Post 20 [(0, .ref 85), (1, .int x1), (2, .int 0)] [] h15)))) ∧ ((b2i (0 ≤ x1.toInt64 ∧ x1.toInt64 ≤ 119)) = 0 → (Post (some (.int (-1))) h))) : td_J G (d + 7) mX10_motor Post 0 [(0, .ref 85), (1, .int x1)] [] h := by
  refine td_iload_n 1 dX10_motor_0 rfl ?_
  refine td_i2l dX10_motor_1 ?_
  refine td_lconst (v := 0) dX10_motor_2 (by decide) ?_
  refine td_ldc2 (v := 119) kw_X10_111 dX10_motor_3 ?_
  refine cl_X10_75 rfl dX10_motor_6 (Nat.le_of_ble_eq_true rfl) (c_in x1.toInt64 0 119) (eR_k ?_)
  refine td_eqs (st2 := [.int (b2i (0 ≤ x1.toInt64 ∧ x1.toInt64 ≤ 119))]) rfl ?_
  obtain ⟨Kt, Kf⟩ := K
  refine td_if_ne (tgt := 14) dX10_motor_9 (by decide) (fun q9 => ?_) (fun q9 => ?_)
  · have K := Kt q9
    refine td_aload_n 0 dX10_motor_14 rfl ?_
    obtain ⟨e15_0, K⟩ := K
    obtain ⟨e15_1, K⟩ := K
    obtain ⟨e15_2, K⟩ := K
    refine cl_X10_104 rfl kp_85 dX10_motor_15 (Nat.le_of_ble_eq_true rfl) (c_asTold c e15_0 e15_1 e15_2) ?_
    rintro _ h15 ⟨rfl, f15⟩
    have K := K h15 f15
    refine td_eqs (st2 := []) rfl ?_
    refine td_iconst (v := 0) dX10_motor_18 (by decide) ?_
    refine td_istore_n (lv2 := [(0, .ref 85), (1, .int x1), (2, .int 0)]) dX10_motor_19 (by decide) rfl ?_
    exact K
  · have K := Kf q9
    refine td_iconst (v := (-1)) dX10_motor_12 (by decide) ?_
    exact td_ireturn rfl dX10_motor_13 K
set_option maxRecDepth 20000 in
set_option maxHeartbeats 4000000 in
theorem gX10_motor_20 {G : td_G} {d : Nat} {Post : td_P} {c : nH} {x1 x2 : Int32} {h : td_H} (K : (20 < x2 → (Post (some (.int (-4))) h)) ∧ (¬ 20 < x2 → (rmC c (hu h 87 3 x2) ∧ (∀ h34 : td_H, (Fr (hu h 87 3 x2) h34 ∧ rmS (sEndK c (sRun c 120) (c 1 0)) h34) → (12 ≤ c 5 0 ∧ rmC c h34 ∧ rmS (tau c) h34 ∧ ((x1 < (nI (lastE c)) → td_J G (d + 7) mX10_motor Post 20 [(0, .ref 85), (1, .int x1), (2, .int (x2 + 1))] [] h34) ∧ (¬ x1 < (nI (lastE c)) → (Post (some (.int x2)) h34)))))))) : td_J G (d + 7) mX10_motor Post 20 [(0, .ref 85), (1, .int x1), (2, .int x2)] [] h := by
  refine td_iload_n 2 dX10_motor_20 rfl ?_
  refine td_bipush (v := 20) dX10_motor_21 (by decide) ?_
  obtain ⟨Kt, Kf⟩ := K
  refine td_icmp_gt (tgt := 53) dX10_motor_23 (by decide) (fun q23 => ?_) (fun q23 => ?_)
  · have K := Kt q23
    refine td_bipush (v := (-4)) dX10_motor_53 (by decide) ?_
    exact td_ireturn rfl dX10_motor_55 K
  · have K := Kf q23
    refine td_aload_n 0 dX10_motor_26 rfl ?_
    refine gf_X10_13 rfl kp_85 dX10_motor_27 ?_
    refine td_iconst (v := 3) dX10_motor_30 (by decide) ?_
    refine td_iload_n 2 dX10_motor_31 rfl ?_
    refine td_iastc (j := 3) kp_87 (by decide) (by unfold vp_in; decide) (by decide) dX10_motor_32 ?_
    refine td_aload_n 0 dX10_motor_33 rfl ?_
    obtain ⟨e34_0, K⟩ := K
    refine cl_X10_228 rfl kp_85 dX10_motor_34 (Nat.le_of_ble_eq_true rfl) (c_run c e34_0) ?_
    rintro _ h34 ⟨rfl, f34⟩
    have K := K h34 f34
    refine td_eqs (st2 := []) rfl ?_
    refine td_aload_n 0 dX10_motor_37 rfl ?_
    obtain ⟨e38_0, K⟩ := K
    obtain ⟨e38_1, K⟩ := K
    obtain ⟨e38_2, K⟩ := K
    refine cl_X10_236 rfl kp_85 dX10_motor_38 (Nat.le_of_ble_eq_true rfl) (c_lastT c e38_0 e38_1 e38_2) (eR_k ?_)
    refine td_eqs (st2 := [.int (nI (lastE c))]) rfl ?_
    refine td_iload_n 1 dX10_motor_41 rfl ?_
    obtain ⟨Kt, Kf⟩ := K
    refine td_icmp_gt (tgt := 47) dX10_motor_42 (by decide) (fun q42 => ?_) (fun q42 => ?_)
    · have K := Kt q42
      refine td_iinc 2 (v := x2 + 1) (lv2 := [(0, .ref 85), (1, .int x1), (2, .int (x2 + 1))]) dX10_motor_47 rfl (congrArg (x2 + ·) (by decide)) (by decide) rfl ?_
      refine td_goto (tgt := 20) dX10_motor_50 (by decide) ?_
      exact K
    · have K := Kf q42
      refine td_iload_n 2 dX10_motor_45 rfl ?_
      exact td_ireturn rfl dX10_motor_46 K
/-- other settings, in the model -/
theorem rmC.sets {c c' : nH} {h h' : td_H} (x : rmC c h) (hs : wfS c') (e : ∀ a b, 1 ≤ a → c' a b = c a b) (e1 : ∀ i, i < 9 → h' 87 i = nI (c' 0 i)) (eo : ∀ a b, a ≠ 87 → h' a b = h a b) : rmC c' h' := by
  obtain ⟨w, -, a2, a3, a4⟩ := x
  refine ⟨w.of hs (fun a b h1 _ => e a b h1), e1, ?_, fun p hp => ?_, ?_⟩
  · rw [eo _ _ (by decide), e 1 0 (by decide)]; exact a2
  · rw [e 1 0 (by decide)] at hp
    rw [eo _ _ (by decide), eo _ _ (by decide), eo _ _ (by decide), e 2 p (by decide), e 3 p (by decide), e 4 p (by decide)]
    exact a3 p hp
  · rw [eo _ _ (by decide), e 5 0 (by decide)]; exact a4
theorem M_motor {G : td_G} {d : Nat} {h : td_H} {s : gS} (x1 : Int32) (O : OK s) (I : MI s h) : td_C G (d + 7) mX10_motor [.ref 85, .int x1] h (mPost (rMot s.1 x1) s h) := by
  refine td_entry rfl (Nat.le_of_ble_eq_true rfl) rfl (gX10_motor_0 (c := s.1) ?_)
  have hn := O.1.n
  by_cases ok : (0 ≤ x1 ∧ x1 < 120)
  · have ea : rMot s.1 x1 = mtS s.1 (ix x1) 21 0 := by unfold rMot; rw [if_pos ok]
    rw [ea]
    refine ⟨fun _ => ⟨O.1, O.2.1, I.1, fun h2 hh => ?_⟩, fun y => absurd (iq 119 ok) (bz y)⟩
    obtain ⟨t, ht, rfl⟩ := in_n (n := 120) (by decide) ok
    have et : ix (nI t) = t := ixn (by omega)
    rw [et]
    have loop : ∀ f m (h3 : td_H), f + m = 21 → FrN h h3 → (∀ a b, a ≠ 87 ∧ a ≠ 86 ∧ a ≠ 88 ∧ ¬ (a = 85 ∧ b = 2) ∨ ¬ simP a b ∧ ¬ (a = 87 ∧ b = 3) → True) → (∃ c', rmC c' h3 ∧ ∀ a b, ¬ (a = 0 ∧ b = 3) → c' a b = s.1 a b) → mtS s.1 t f m = mtS s.1 t 21 0 → td_J G (d + 7) mX10_motor (mPost (mtS s.1 t 21 0) s h) 20 [(0, .ref 85), (1, .int (nI t)), (2, .int (nI m))] [] h3 := by
      intro f
      induction f with
      | zero =>
        intro m h3 hm hF _ _ he
        refine gX10_motor_20 (c := s.1) ⟨fun _ => ⟨?_, I.q hF⟩, fun y => absurd (nlt_of (a := 20) y) (by omega)⟩
        rw [← he]; rfl
      | succ f ih =>
        intro m h3 hm hF _ hC he
        obtain ⟨c', hC, hc⟩ := hC
        have C1 : rmC (cfgM s.1 m) (hu h3 87 3 (nI m)) := hC.sets (cfgM_s O.1 (by omega)) (fun a b z => by rw [cfgM_o _ _ _ _ (by omega), hc a b (by omega)]) (fun i hi => by
          rw [hu_app]
          unfold cfgM
          rw [nu_app]
          by_cases e : i = 3
          · rw [if_pos ⟨rfl, e⟩, if_pos ⟨rfl, e⟩]
          · rw [if_neg (fun w => e w.2), if_neg (fun w => e w.2), hC.2.1 i hi, hc 0 i (fun w => e w.2)]) (fun a b z => by rw [hu_app, if_neg (fun w => z w.1)])
        refine gX10_motor_20 (c := cfgM s.1 m) ⟨fun y => absurd (lt_of (a := 20) y) (by omega), fun _ => ⟨C1, fun h4 h44 => ⟨by rw [cfgM_o _ _ _ _ (by decide)]; exact O.2.1, h44.1.C C1, h44.2, ?_⟩⟩⟩
        have F4 : FrN h h4 := hF.tr (fun a b z => by rw [h44.1 a b (fun w => z (by unfold simP at w; unfold qR; omega)), hu_app, if_neg (fun w => z (by unfold qR; omega))])
        have hl := lastE_le (c := cfgM s.1 m) (by rw [cfgM_o _ _ _ _ (by decide)]; exact hn)
        rw [show mtS s.1 t (f + 1) m = if lastE (cfgM s.1 m) ≤ t then nI m else mtS s.1 t f (m + 1) from rfl] at he
        refine ⟨fun y => ?_, fun y => ⟨?_, I.q F4⟩⟩
        · have y2 := lt_of y
          rw [if_neg (by omega)] at he
          exact td_to (ih (m + 1) h4 (by omega) F4 (fun _ _ _ => trivial) ⟨cfgM s.1 m, h44.1.C C1, fun a b z => by unfold cfgM; rw [nu_app, if_neg z]⟩ he) (by rw [nI_1]) rfl rfl
        · have y2 := nlt_of y
          rw [if_pos y2] at he
          rw [he]
    exact loop 21 0 h2 rfl hh.1.N (fun _ _ _ => trivial) ⟨s.1, hh.2, fun _ _ _ => rfl⟩ rfl
  · have ea : rMot s.1 x1 = -1 := by unfold rMot; rw [if_neg ok]
    rw [ea]
    exact ⟨fun y => absurd (iqn 119 (bnz y)) ok, fun _ => ⟨rfl, I, FD.rf h⟩⟩
/-! warmest -/
set_option maxRecDepth 20000 in
set_option maxHeartbeats 4000000 in
theorem gX10_warmest_0 {G : td_G} {d : Nat} {Post : td_P} {c : nH} {x1 x2 : Int32} {h : td_H} (K : ((b2i (0 ≤ x1.toInt64 ∧ x1.toInt64 ≤ 119)) = 0 → (Post (some (.int (-1))) h)) ∧ (¬ (b2i (0 ≤ x1.toInt64 ∧ x1.toInt64 ≤ 119)) = 0 → ((¬ (b2i (0 ≤ x2.toInt64 ∧ x2.toInt64 ≤ 3)) = 0 → (wfC c ∧ 12 ≤ c 5 0 ∧ mZ c 86 h ∧ (∀ h27 : td_H, (FrA h h27 ∧ rmC c h27) → (td_J G (d + 7) mX10_warmest Post 39 [(0, .ref 85), (1, .int x1), (2, .int x2), (3, .int (-4)), (4, .int 0), (5, .int 0)] [] h27)))) ∧ ((b2i (0 ≤ x2.toInt64 ∧ x2.toInt64 ≤ 3)) = 0 → (Post (some (.int (-1))) h))))) : td_J G (d + 7) mX10_warmest Post 0 [(0, .ref 85), (1, .int x1), (2, .int x2)] [] h := by
  refine td_iload_n 1 dX10_warmest_0 rfl ?_
  refine td_i2l dX10_warmest_1 ?_
  refine td_lconst (v := 0) dX10_warmest_2 (by decide) ?_
  refine td_ldc2 (v := 119) kw_X10_111 dX10_warmest_3 ?_
  refine cl_X10_75 rfl dX10_warmest_6 (Nat.le_of_ble_eq_true rfl) (c_in x1.toInt64 0 119) (eR_k ?_)
  refine td_eqs (st2 := [.int (b2i (0 ≤ x1.toInt64 ∧ x1.toInt64 ≤ 119))]) rfl ?_
  obtain ⟨Kt, Kf⟩ := K
  refine td_if_eq (tgt := 24) dX10_warmest_9 (by decide) (fun q9 => ?_) (fun q9 => ?_)
  · have K := Kt q9
    refine td_iconst (v := (-1)) dX10_warmest_24 (by decide) ?_
    exact td_ireturn rfl dX10_warmest_25 K
  · have K := Kf q9
    refine td_iload_n 2 dX10_warmest_12 rfl ?_
    refine td_i2l dX10_warmest_13 ?_
    refine td_lconst (v := 0) dX10_warmest_14 (by decide) ?_
    refine td_ldc2 (v := 3) kw_X10_226 dX10_warmest_15 ?_
    refine cl_X10_75 rfl dX10_warmest_18 (Nat.le_of_ble_eq_true rfl) (c_in x2.toInt64 0 3) (eR_k ?_)
    refine td_eqs (st2 := [.int (b2i (0 ≤ x2.toInt64 ∧ x2.toInt64 ≤ 3))]) rfl ?_
    obtain ⟨Kt, Kf⟩ := K
    refine td_if_ne (tgt := 26) dX10_warmest_21 (by decide) (fun q21 => ?_) (fun q21 => ?_)
    · have K := Kt q21
      refine td_aload_n 0 dX10_warmest_26 rfl ?_
      obtain ⟨e27_0, K⟩ := K
      obtain ⟨e27_1, K⟩ := K
      obtain ⟨e27_2, K⟩ := K
      refine cl_X10_104 rfl kp_85 dX10_warmest_27 (Nat.le_of_ble_eq_true rfl) (c_asTold c e27_0 e27_1 e27_2) ?_
      rintro _ h27 ⟨rfl, f27⟩
      have K := K h27 f27
      refine td_eqs (st2 := []) rfl ?_
      refine td_bipush (v := (-4)) dX10_warmest_30 (by decide) ?_
      refine td_istore_n (lv2 := [(0, .ref 85), (1, .int x1), (2, .int x2), (3, .int (-4))]) dX10_warmest_32 (by decide) rfl ?_
      refine td_iconst (v := 0) dX10_warmest_33 (by decide) ?_
      refine td_istore (lv2 := [(0, .ref 85), (1, .int x1), (2, .int x2), (3, .int (-4)), (4, .int 0)]) dX10_warmest_34 (by decide) rfl ?_
      refine td_iconst (v := 0) dX10_warmest_36 (by decide) ?_
      refine td_istore (lv2 := [(0, .ref 85), (1, .int x1), (2, .int x2), (3, .int (-4)), (4, .int 0), (5, .int 0)]) dX10_warmest_37 (by decide) rfl ?_
      exact K
    · have K := Kf q21
      refine td_iconst (v := (-1)) dX10_warmest_24 (by decide) ?_
      exact td_ireturn rfl dX10_warmest_25 K
set_option maxRecDepth 20000 in
set_option maxHeartbeats 4000000 in
theorem gX10_warmest_39 {G : td_G} {d : Nat} {Post : td_P} {c : nH} {x1 x2 x3 x4 x5 : Int32} {h : td_H} (K : (18 ≤ x5 → ((0 ≤ x3 → (Post (some (.int (if x2 = 0 then (3 + (x3 / 9)) else if x2 = 1 then (1 + (jrem (x3 / 3) 3)) else if x2 = 2 then (1 + (jrem x3 3)) else x4 : Int32))) h)) ∧ (¬ 0 ≤ x3 → (Post (some (.int (-4))) h)))) ∧ (¬ 18 ≤ x5 → (rmC c (hu (hu (hu h 87 0 (3 + (x5 / 9))) 87 1 (1 + (jrem (x5 / 3) 3))) 87 5 (1 + (jrem x5 3))) ∧ (∀ h86 : td_H, (Fr (hu (hu (hu h 87 0 (3 + (x5 / 9))) 87 1 (1 + (jrem (x5 / 3) 3))) 87 5 (1 + (jrem x5 3))) h86 ∧ rmS (sEndK c (sRun c 120) (c 1 0)) h86) → (12 ≤ c 5 0 ∧ rmC c h86 ∧ rmS (tau c) h86 ∧ (td_J G (d + 7) mX10_warmest Post 39 [(0, .ref 85), (1, .int x1), (2, .int x2), (3, .int (if x1 < (nI (lastE c)) then x3 else if x3 < 0 then x5 else if x4 ≤ (h86 85 20) then x3 else x5 : Int32)), (4, .int (if x1 < (nI (lastE c)) then x4 else if x3 < 0 then (h86 85 20) else if x4 ≤ (h86 85 20) then x4 else (h86 85 20) : Int32)), (5, .int (x5 + 1))] [] h86)))))) : td_J G (d + 7) mX10_warmest Post 39 [(0, .ref 85), (1, .int x1), (2, .int x2), (3, .int x3), (4, .int x4), (5, .int x5)] [] h := by
  refine td_iload 5 dX10_warmest_39 rfl ?_
  refine td_bipush (v := 18) dX10_warmest_41 (by decide) ?_
  obtain ⟨Kt, Kf⟩ := K
  refine td_icmp_ge (tgt := 125) dX10_warmest_43 (by decide) (fun q43 => ?_) (fun q43 => ?_)
  · have K := Kt q43
    refine td_iload_n 3 dX10_warmest_125 rfl ?_
    obtain ⟨Kt, Kf⟩ := K
    refine td_if_ge (tgt := 132) dX10_warmest_126 (by decide) (fun q126 => ?_) (fun q126 => ?_)
    · have K := Kt q126
      refine td_iload_n 2 dX10_warmest_132 rfl ?_
      have KJ175 : td_J G (d + 7) mX10_warmest Post 175 [(0, .ref 85), (1, .int x1), (2, .int x2), (3, .int x3), (4, .int x4), (5, .int x5)] [.int (if x2 = 0 then (3 + (x3 / 9)) else if x2 = 1 then (1 + (jrem (x3 / 3) 3)) else if x2 = 2 then (1 + (jrem x3 3)) else x4 : Int32)] h := by
        exact td_ireturn rfl dX10_warmest_175 K
      refine td_if_ne (tgt := 145) dX10_warmest_133 (by decide) (fun q133 => ?_) (fun q133 => ?_)
      · skip
        refine td_iload_n 2 dX10_warmest_145 rfl ?_
        refine td_iconst (v := 1) dX10_warmest_146 (by decide) ?_
        refine td_icmp_ne (tgt := 160) dX10_warmest_147 (by decide) (fun q147 => ?_) (fun q147 => ?_)
        · skip
          refine td_iload_n 2 dX10_warmest_160 rfl ?_
          refine td_iconst (v := 2) dX10_warmest_161 (by decide) ?_
          refine td_icmp_ne (tgt := 173) dX10_warmest_162 (by decide) (fun q162 => ?_) (fun q162 => ?_)
          · skip
            refine td_iload 4 dX10_warmest_173 rfl ?_
            exact td_to KJ175 rfl (by rw [show (if x2 = 0 then (3 + (x3 / 9)) else if x2 = 1 then (1 + (jrem (x3 / 3) 3)) else if x2 = 2 then (1 + (jrem x3 3)) else x4 : Int32) = _ from (if_neg q133).trans ((if_neg q147).trans (if_neg q162))]) rfl
          · skip
            refine td_iconst (v := 1) dX10_warmest_165 (by decide) ?_
            refine td_iload_n 3 dX10_warmest_166 rfl ?_
            refine td_iconst (v := 3) dX10_warmest_167 (by decide) ?_
            refine td_irem dX10_warmest_168 (by decide) ?_
            refine td_iadd dX10_warmest_169 ?_
            refine td_goto (tgt := 175) dX10_warmest_170 (by decide) ?_
            exact td_to KJ175 rfl (by rw [show (if x2 = 0 then (3 + (x3 / 9)) else if x2 = 1 then (1 + (jrem (x3 / 3) 3)) else if x2 = 2 then (1 + (jrem x3 3)) else x4 : Int32) = _ from (if_neg q133).trans ((if_neg q147).trans (if_pos q162))]) rfl
        · skip
          refine td_iconst (v := 1) dX10_warmest_150 (by decide) ?_
          refine td_iload_n 3 dX10_warmest_151 rfl ?_
          refine td_iconst (v := 3) dX10_warmest_152 (by decide) ?_
          refine td_idiv dX10_warmest_153 (by decide) ?_
          refine td_iconst (v := 3) dX10_warmest_154 (by decide) ?_
          refine td_irem dX10_warmest_155 (by decide) ?_
          refine td_iadd dX10_warmest_156 ?_
          refine td_goto (tgt := 175) dX10_warmest_157 (by decide) ?_
          exact td_to KJ175 rfl (by rw [show (if x2 = 0 then (3 + (x3 / 9)) else if x2 = 1 then (1 + (jrem (x3 / 3) 3)) else if x2 = 2 then (1 + (jrem x3 3)) else x4 : Int32) = _ from (if_neg q133).trans (if_pos q147)]) rfl
      · skip
        refine td_iconst (v := 3) dX10_warmest_136 (by decide) ?_
        refine td_iload_n 3 dX10_warmest_137 rfl ?_
        refine td_bipush (v := 9) dX10_warmest_138 (by decide) ?_
        refine td_idiv dX10_warmest_140 (by decide) ?_
        refine td_iadd dX10_warmest_141 ?_
        refine td_goto (tgt := 175) dX10_warmest_142 (by decide) ?_
        exact td_to KJ175 rfl (by rw [show (if x2 = 0 then (3 + (x3 / 9)) else if x2 = 1 then (1 + (jrem (x3 / 3) 3)) else if x2 = 2 then (1 + (jrem x3 3)) else x4 : Int32) = _ from if_pos q133]) rfl
    · have K := Kf q126
      refine td_bipush (v := (-4)) dX10_warmest_129 (by decide) ?_
      exact td_ireturn rfl dX10_warmest_131 K
  · have K := Kf q43
    refine td_aload_n 0 dX10_warmest_46 rfl ?_
    refine gf_X10_13 rfl kp_85 dX10_warmest_47 ?_
    refine td_iconst (v := 0) dX10_warmest_50 (by decide) ?_
    refine td_iconst (v := 3) dX10_warmest_51 (by decide) ?_
    refine td_iload 5 dX10_warmest_52 rfl ?_
    refine td_bipush (v := 9) dX10_warmest_54 (by decide) ?_
    refine td_idiv dX10_warmest_56 (by decide) ?_
    refine td_iadd dX10_warmest_57 ?_
    refine td_iastc (j := 0) kp_87 (by decide) (by unfold vp_in; decide) (by decide) dX10_warmest_58 ?_
    refine td_aload_n 0 dX10_warmest_59 rfl ?_
    refine gf_X10_13 rfl kp_85 dX10_warmest_60 ?_
    refine td_iconst (v := 1) dX10_warmest_63 (by decide) ?_
    refine td_iconst (v := 1) dX10_warmest_64 (by decide) ?_
    refine td_iload 5 dX10_warmest_65 rfl ?_
    refine td_iconst (v := 3) dX10_warmest_67 (by decide) ?_
    refine td_idiv dX10_warmest_68 (by decide) ?_
    refine td_iconst (v := 3) dX10_warmest_69 (by decide) ?_
    refine td_irem dX10_warmest_70 (by decide) ?_
    refine td_iadd dX10_warmest_71 ?_
    refine td_iastc (j := 1) kp_87 (by decide) (by unfold vp_in; decide) (by decide) dX10_warmest_72 ?_
    refine td_aload_n 0 dX10_warmest_73 rfl ?_
    refine gf_X10_13 rfl kp_85 dX10_warmest_74 ?_
    refine td_iconst (v := 5) dX10_warmest_77 (by decide) ?_
    refine td_iconst (v := 1) dX10_warmest_78 (by decide) ?_
    refine td_iload 5 dX10_warmest_79 rfl ?_
    refine td_iconst (v := 3) dX10_warmest_81 (by decide) ?_
    refine td_irem dX10_warmest_82 (by decide) ?_
    refine td_iadd dX10_warmest_83 ?_
    refine td_iastc (j := 5) kp_87 (by decide) (by unfold vp_in; decide) (by decide) dX10_warmest_84 ?_
    refine td_aload_n 0 dX10_warmest_85 rfl ?_
    obtain ⟨e86_0, K⟩ := K
    refine cl_X10_228 rfl kp_85 dX10_warmest_86 (Nat.le_of_ble_eq_true rfl) (c_run c e86_0) ?_
    rintro _ h86 ⟨rfl, f86⟩
    have K := K h86 f86
    refine td_eqs (st2 := []) rfl ?_
    refine td_aload_n 0 dX10_warmest_89 rfl ?_
    obtain ⟨e90_0, K⟩ := K
    obtain ⟨e90_1, K⟩ := K
    obtain ⟨e90_2, K⟩ := K
    refine cl_X10_236 rfl kp_85 dX10_warmest_90 (Nat.le_of_ble_eq_true rfl) (c_lastT c e90_0 e90_1 e90_2) (eR_k ?_)
    refine td_eqs (st2 := [.int (nI (lastE c))]) rfl ?_
    refine td_iload_n 1 dX10_warmest_93 rfl ?_
    have KJ119 : td_J G (d + 7) mX10_warmest Post 119 [(0, .ref 85), (1, .int x1), (2, .int x2), (3, .int (if x1 < (nI (lastE c)) then x3 else if x3 < 0 then x5 else if x4 ≤ (h86 85 20) then x3 else x5 : Int32)), (4, .int (if x1 < (nI (lastE c)) then x4 else if x3 < 0 then (h86 85 20) else if x4 ≤ (h86 85 20) then x4 else (h86 85 20) : Int32)), (5, .int x5)] [] h86 := by
      refine td_iinc 5 (v := x5 + 1) (lv2 := [(0, .ref 85), (1, .int x1), (2, .int x2), (3, .int (if x1 < (nI (lastE c)) then x3 else if x3 < 0 then x5 else if x4 ≤ (h86 85 20) then x3 else x5 : Int32)), (4, .int (if x1 < (nI (lastE c)) then x4 else if x3 < 0 then (h86 85 20) else if x4 ≤ (h86 85 20) then x4 else (h86 85 20) : Int32)), (5, .int (x5 + 1))]) dX10_warmest_119 rfl (congrArg (x5 + ·) (by decide)) (by decide) rfl ?_
      refine td_goto (tgt := 39) dX10_warmest_122 (by decide) ?_
      exact K
    refine td_icmp_gt (tgt := 119) dX10_warmest_94 (by decide) (fun q94 => ?_) (fun q94 => ?_)
    · skip
      exact td_to KJ119 (by rw [show (if x1 < (nI (lastE c)) then x3 else if x3 < 0 then x5 else if x4 ≤ (h86 85 20) then x3 else x5 : Int32) = _ from if_pos q94, show (if x1 < (nI (lastE c)) then x4 else if x3 < 0 then (h86 85 20) else if x4 ≤ (h86 85 20) then x4 else (h86 85 20) : Int32) = _ from if_pos q94]) rfl rfl
    · skip
      refine td_iload_n 3 dX10_warmest_97 rfl ?_
      refine td_if_lt (tgt := 110) dX10_warmest_98 (by decide) (fun q98 => ?_) (fun q98 => ?_)
      · skip
        refine td_iload 5 dX10_warmest_110 rfl ?_
        refine td_istore_n (lv2 := [(0, .ref 85), (1, .int x1), (2, .int x2), (3, .int x5), (4, .int x4), (5, .int x5)]) dX10_warmest_112 (by decide) rfl ?_
        refine td_aload_n 0 dX10_warmest_113 rfl ?_
        refine gf_X10_186 rfl kp_85 dX10_warmest_114 ?_
        refine td_istore (lv2 := [(0, .ref 85), (1, .int x1), (2, .int x2), (3, .int x5), (4, .int (h86 85 20)), (5, .int x5)]) dX10_warmest_117 (by decide) rfl ?_
        exact td_to KJ119 (by rw [show (if x1 < (nI (lastE c)) then x3 else if x3 < 0 then x5 else if x4 ≤ (h86 85 20) then x3 else x5 : Int32) = _ from (if_neg q94).trans (if_pos q98), show (if x1 < (nI (lastE c)) then x4 else if x3 < 0 then (h86 85 20) else if x4 ≤ (h86 85 20) then x4 else (h86 85 20) : Int32) = _ from (if_neg q94).trans (if_pos q98)]) rfl rfl
      · skip
        refine td_aload_n 0 dX10_warmest_101 rfl ?_
        refine gf_X10_186 rfl kp_85 dX10_warmest_102 ?_
        refine td_iload 4 dX10_warmest_105 rfl ?_
        refine td_icmp_ge (tgt := 119) dX10_warmest_107 (by decide) (fun q107 => ?_) (fun q107 => ?_)
        · skip
          exact td_to KJ119 (by rw [show (if x1 < (nI (lastE c)) then x3 else if x3 < 0 then x5 else if x4 ≤ (h86 85 20) then x3 else x5 : Int32) = _ from (if_neg q94).trans ((if_neg q98).trans (if_pos q107)), show (if x1 < (nI (lastE c)) then x4 else if x3 < 0 then (h86 85 20) else if x4 ≤ (h86 85 20) then x4 else (h86 85 20) : Int32) = _ from (if_neg q94).trans ((if_neg q98).trans (if_pos q107))]) rfl rfl
        · skip
          refine td_iload 5 dX10_warmest_110 rfl ?_
          refine td_istore_n (lv2 := [(0, .ref 85), (1, .int x1), (2, .int x2), (3, .int x5), (4, .int x4), (5, .int x5)]) dX10_warmest_112 (by decide) rfl ?_
          refine td_aload_n 0 dX10_warmest_113 rfl ?_
          refine gf_X10_186 rfl kp_85 dX10_warmest_114 ?_
          refine td_istore (lv2 := [(0, .ref 85), (1, .int x1), (2, .int x2), (3, .int x5), (4, .int (h86 85 20)), (5, .int x5)]) dX10_warmest_117 (by decide) rfl ?_
          exact td_to KJ119 (by rw [show (if x1 < (nI (lastE c)) then x3 else if x3 < 0 then x5 else if x4 ≤ (h86 85 20) then x3 else x5 : Int32) = _ from (if_neg q94).trans ((if_neg q98).trans (if_neg q107)), show (if x1 < (nI (lastE c)) then x4 else if x3 < 0 then (h86 85 20) else if x4 ≤ (h86 85 20) then x4 else (h86 85 20) : Int32) = _ from (if_neg q94).trans ((if_neg q98).trans (if_neg q107))]) rfl rfl
def n4w (v : Nat) : Int32 := if v = 18 then -4 else nI v
def lsw (g : nH) (v : Nat) : Int32 := if v = 18 then 0 else nI (lossE (cfgD g v))
theorem M_warmest {G : td_G} {d : Nat} {h : td_H} {s : gS} (x1 x2 : Int32) (O : OK s) (I : MI s h) : td_C G (d + 7) mX10_warmest [.ref 85, .int x1, .int x2] h (mPost (rWarm s.1 x1 x2) s h) := by
  have hn := O.1.n
  refine td_entry rfl (Nat.le_of_ble_eq_true rfl) rfl (gX10_warmest_0 (c := s.1) ?_)
  by_cases ok1 : (0 ≤ x1 ∧ x1 < 120)
  · by_cases ok2 : (0 ≤ x2 ∧ x2 < 4)
    · have ea : rWarm s.1 x1 x2 = (if wmB s.1 (ix x1) 18 = 18 then -4 else aWarm s.1 (wmB s.1 (ix x1) 18) x2) := by unfold rWarm; rw [if_pos ⟨ok1, ok2⟩]
      rw [ea]
      refine ⟨fun y => absurd (iq 119 ok1) (bz y), fun _ => ⟨fun _ => ⟨O.1, O.2.1, I.1, fun h2 hh => ?_⟩, fun y => absurd (iq 3 ok2) (bz y)⟩⟩
      obtain ⟨t, ht, rfl⟩ := in_n (n := 120) (by decide) ok1
      have et : ix (nI t) = t := ixn (by omega)
      rw [et]
      refine td_forH 18 (fun k => [(0, .ref 85), (1, .int (nI t)), (2, .int x2), (3, .int (n4w (wmB s.1 t k))), (4, .int (lsw s.1 (wmB s.1 t k))), (5, .int (nI k))]) (fun _ h3 => FrN h h3 ∧ ∃ c', rmC c' h3 ∧ ∀ a b, ¬ (a = 0 ∧ (b = 0 ∨ b = 1 ∨ b = 5)) → c' a b = s.1 a b) rfl ⟨hh.1.N, s.1, hh.2, fun _ _ _ => rfl⟩ (fun k hk h3 hI ih => ?_) (fun h3 hI => ?_)
      · obtain ⟨hF, c', hC, hc⟩ := hI
        obtain ⟨q1, q2, q3⟩ := door_n hk
        have C1 : rmC (cfgD s.1 k) (hu (hu (hu h3 87 0 (nI (3 + k / 9))) 87 1 (nI (1 + k / 3 % 3))) 87 5 (nI (1 + k % 3))) := hC.sets (cfgD_s O.1 hk) (fun a b z => by rw [cfgD_o _ _ _ _ (by omega), hc a b (by omega)]) (fun i hi => by
          rw [hu_app, hu_app, hu_app]
          unfold cfgD
          by_cases e5 : i = 5
          · subst e5; rw [if_pos ⟨rfl, rfl⟩, if_neg (by decide), if_neg (by decide), if_pos ⟨rfl, rfl⟩]
          · rw [if_neg (fun w => e5 w.2)]
            by_cases e1 : i = 1
            · subst e1; rw [if_pos ⟨rfl, rfl⟩, if_neg (by decide), if_pos ⟨rfl, rfl⟩]
            · rw [if_neg (fun w => e1 w.2)]
              by_cases e0 : i = 0
              · subst e0; rw [if_pos ⟨rfl, rfl⟩, if_pos ⟨rfl, rfl⟩]
              · rw [if_neg (fun w => e0 w.2), if_neg (fun w => e0 w.2), if_neg (fun w => e1 w.2), if_neg (fun w => e5 w.2), hC.2.1 i hi, hc 0 i (fun w => by omega)]) (fun a b z => by rw [hu_app, if_neg (fun w => z w.1), hu_app, if_neg (fun w => z w.1), hu_app, if_neg (fun w => z w.1)])
        refine gX10_warmest_39 (c := cfgD s.1 k) ?_
        rw [q1, q2, q3]
        refine ⟨fun y => absurd (le_of (a := 18) y) (by omega), fun _ => ⟨C1, fun h4 h44 => ⟨by rw [cfgD_o _ _ _ _ (by decide)]; exact O.2.1, h44.1.C C1, h44.2, ?_⟩⟩⟩
        have F4 : FrN h h4 := hF.tr (fun a b z => by rw [h44.1 a b (fun w => z (by unfold simP at w; unfold qR; omega)), hu_app, if_neg (fun w => z (by unfold qR; omega)), hu_app, if_neg (fun w => z (by unfold qR; omega)), hu_app, if_neg (fun w => z (by unfold qR; omega))])
        have k3 := h44.2.2.2.2.2.1
        rw [tau_o (cfgD s.1 k) 120 8 3 (by decide)] at k3
        have k3 : h4 85 20 = nI (lossE (cfgD s.1 k)) := k3
        have hl := lastE_le (c := cfgD s.1 k) (by rw [cfgD_o _ _ _ _ (by decide)]; exact hn)
        refine td_to (ih h4 ⟨F4, cfgD s.1 k, h44.1.C C1, fun a b z => by unfold cfgD; rw [if_neg (fun w => z (by omega)), if_neg (fun w => z (by omega)), if_neg (fun w => z (by omega))]⟩) ?_ rfl rfl
        rw [k3, nI_1]
        have hb := wmB_lt s.1 t k (by omega)
        have ew : wmB s.1 t (k + 1) = if lastE (cfgD s.1 k) ≤ t ∧ (wmB s.1 t k = 18 ∨ nI (lossE (cfgD s.1 k)) < nI (lossE (cfgD s.1 (wmB s.1 t k)))) then k else wmB s.1 t k := rfl
        rw [ew]
        generalize wmB s.1 t k = b at hb ⊢
        have nk : n4w k = nI k ∧ lsw s.1 k = nI (lossE (cfgD s.1 k)) := by unfold n4w lsw; rw [if_neg (by omega), if_neg (by omega)]; exact ⟨rfl, rfl⟩
        by_cases c1 : lastE (cfgD s.1 k) ≤ t
        · have c1' : ¬ nI t < nI (lastE (cfgD s.1 k)) := fun z => by have := lt_of z; omega
          rw [if_neg c1', if_neg c1']
          by_cases c2 : b = 18
          · have cc : lastE (cfgD s.1 k) ≤ t ∧ (b = 18 ∨ nI (lossE (cfgD s.1 k)) < nI (lossE (cfgD s.1 b))) := ⟨c1, Or.inl c2⟩
            have nb0 : n4w b < 0 := by rw [c2]; decide
            rw [if_pos nb0, if_pos nb0, if_pos cc, nk.1, nk.2]
          · have nb : n4w b = nI b ∧ lsw s.1 b = nI (lossE (cfgD s.1 b)) := by unfold n4w lsw; rw [if_neg c2, if_neg c2]; exact ⟨rfl, rfl⟩
            have nn0 : ¬ nI b < 0 := fun z => by have := lt_of (b := 0) z; omega
            rw [nb.1, nb.2, if_neg nn0, if_neg nn0]
            by_cases c3 : nI (lossE (cfgD s.1 k)) < nI (lossE (cfgD s.1 b))
            · have c3' : ¬ nI (lossE (cfgD s.1 b)) ≤ nI (lossE (cfgD s.1 k)) := (fa_of_lt c3).2.1
              have cc : lastE (cfgD s.1 k) ≤ t ∧ (b = 18 ∨ nI (lossE (cfgD s.1 k)) < nI (lossE (cfgD s.1 b))) := ⟨c1, Or.inr c3⟩
              rw [if_neg c3', if_neg c3', if_pos cc, nk.1, nk.2]
            · have cc : ¬ (lastE (cfgD s.1 k) ≤ t ∧ (b = 18 ∨ nI (lossE (cfgD s.1 k)) < nI (lossE (cfgD s.1 b)))) := fun z => z.2.elim c2 c3
              rw [if_pos (fa_of_nlt c3), if_pos (fa_of_nlt c3), if_neg cc, nb.1, nb.2]
        · have c1' : nI t < nI (lastE (cfgD s.1 k)) := nI_lt (by omega) (by omega)
          have cc : ¬ (lastE (cfgD s.1 k) ≤ t ∧ (b = 18 ∨ nI (lossE (cfgD s.1 k)) < nI (lossE (cfgD s.1 b)))) := fun z => c1 z.1
          rw [if_pos c1', if_pos c1', if_neg cc]
      · obtain ⟨hF, -⟩ := hI
        have hk := wmB_lt s.1 t 18 (Nat.le_refl _)
        refine gX10_warmest_39 (c := s.1) ⟨fun _ => ?_, fun y => absurd (nle_of (a := 18) (b := 18) y) (by omega)⟩
        generalize wmB s.1 t 18 = k at hk ⊢
        rcases hk with z | z
        · subst z
          exact ⟨fun y => absurd y (by decide), fun _ => ⟨rfl, I.q hF⟩⟩
        · obtain ⟨q1, q2, q3⟩ := door_n z
          have nk : n4w k = nI k ∧ lsw s.1 k = nI (lossE (cfgD s.1 k)) := by unfold n4w lsw; rw [if_neg (by omega), if_neg (by omega)]; exact ⟨rfl, rfl⟩
          rw [nk.1, nk.2, q1, q2, q3, if_neg (by omega)]
          exact ⟨fun _ => ⟨rfl, I.q hF⟩, fun y => absurd ((nI_leI (a := 0) (by decide) (by omega)).mpr (Nat.zero_le k)) y⟩
    · have ea : rWarm s.1 x1 x2 = -1 := by unfold rWarm; rw [if_neg (fun z => ok2 z.2)]
      rw [ea]
      exact ⟨fun _ => ⟨rfl, I, FD.rf h⟩, fun _ => ⟨fun y => absurd (iqn 3 (bnz y)) ok2, fun _ => ⟨rfl, I, FD.rf h⟩⟩⟩
  · have ea : rWarm s.1 x1 x2 = -1 := by unfold rWarm; rw [if_neg (fun z => ok1 z.1)]
    rw [ea]
    exact ⟨fun _ => ⟨rfl, I, FD.rf h⟩, fun y => absurd (iqn 119 (bnz y)) ok1⟩
/-! without -/
set_option maxRecDepth 20000 in
set_option maxHeartbeats 4000000 in
theorem gX10_without_0 {G : td_G} {d : Nat} {Post : td_P} {c cσ13 cσ17 : nH} {x1 : Int32} {h : td_H} (K : (¬ (b2i (0 ≤ (x1).toInt64 ∧ (x1).toInt64 ≤ (((h 86 9) - 1).toInt64))) = 0 → (wfC c ∧ 12 ≤ c 5 0 ∧ mZ c 86 h ∧ (∀ h13 : td_H, (FrA h h13 ∧ rmC c h13) → (rmC cσ13 h13 ∧ (∀ h17 : td_H, (Fr h13 h17 ∧ rmS (sEndK cσ13 (sRun cσ13 120) (cσ13 1 0)) h17) → (rmC cσ17 (hu h17 85 2 x1) ∧ (∀ h31 : td_H, (Fr (hu h17 85 2 x1) h31 ∧ rmS (sEndK cσ17 (sRun cσ17 120) (cσ17 1 0)) h31) → (Post (some (.int ((h17 85 20) - (h31 85 20)))) h31)))))))) ∧ ((b2i (0 ≤ (x1).toInt64 ∧ (x1).toInt64 ≤ (((h 86 9) - 1).toInt64))) = 0 → (Post (some (.int (-100001))) h))) : td_J G (d + 7) mX10_without Post 0 [(0, .ref 85), (1, .int x1)] [] h := by
  refine td_aload_n 0 dX10_without_0 rfl ?_
  refine td_iload_n 1 dX10_without_1 rfl ?_
  refine cl_X10_119 rfl kp_85 dX10_without_2 (Nat.le_of_ble_eq_true rfl) (c_isPerson x1) (eR_k ?_)
  refine td_eqs (st2 := [.int (b2i (0 ≤ (x1).toInt64 ∧ (x1).toInt64 ≤ (((h 86 9) - 1).toInt64)))]) rfl ?_
  obtain ⟨Kt, Kf⟩ := K
  refine td_if_ne (tgt := 12) dX10_without_5 (by decide) (fun q5 => ?_) (fun q5 => ?_)
  · have K := Kt q5
    refine td_aload_n 0 dX10_without_12 rfl ?_
    obtain ⟨e13_0, K⟩ := K
    obtain ⟨e13_1, K⟩ := K
    obtain ⟨e13_2, K⟩ := K
    refine cl_X10_104 rfl kp_85 dX10_without_13 (Nat.le_of_ble_eq_true rfl) (c_asTold c e13_0 e13_1 e13_2) ?_
    rintro _ h13 ⟨rfl, f13⟩
    have K := K h13 f13
    refine td_eqs (st2 := []) rfl ?_
    refine td_aload_n 0 dX10_without_16 rfl ?_
    obtain ⟨e17_0, K⟩ := K
    refine cl_X10_228 rfl kp_85 dX10_without_17 (Nat.le_of_ble_eq_true rfl) (c_run cσ13 e17_0) ?_
    rintro _ h17 ⟨rfl, f17⟩
    have K := K h17 f17
    refine td_eqs (st2 := []) rfl ?_
    refine td_aload_n 0 dX10_without_20 rfl ?_
    refine gf_X10_186 rfl kp_85 dX10_without_21 ?_
    refine td_istore_n (lv2 := [(0, .ref 85), (1, .int x1), (2, .int (h17 85 20))]) dX10_without_24 (by decide) rfl ?_
    refine td_aload_n 0 dX10_without_25 rfl ?_
    refine td_iload_n 1 dX10_without_26 rfl ?_
    refine pf_X10_90 rfl kp_85 dX10_without_27 ?_
    refine td_aload_n 0 dX10_without_30 rfl ?_
    obtain ⟨e31_0, K⟩ := K
    refine cl_X10_228 rfl kp_85 dX10_without_31 (Nat.le_of_ble_eq_true rfl) (c_run cσ17 e31_0) ?_
    rintro _ h31 ⟨rfl, f31⟩
    have K := K h31 f31
    refine td_eqs (st2 := []) rfl ?_
    refine td_iload_n 2 dX10_without_34 rfl ?_
    refine td_aload_n 0 dX10_without_35 rfl ?_
    refine gf_X10_186 rfl kp_85 dX10_without_36 ?_
    refine td_isub dX10_without_39 ?_
    exact td_ireturn rfl dX10_without_40 K
  · have K := Kf q5
    refine td_ldcw (v := (-100001)) kw_X10_261 dX10_without_8 ?_
    exact td_ireturn rfl dX10_without_11 K
theorem M_without {G : td_G} {d : Nat} {h : td_H} {s : gS} (x1 : Int32) (O : OK s) (I : MI s h) : td_C G (d + 7) mX10_without [.ref 85, .int x1] h (mPost (rWout s.1 x1) s h) := by
  have e9 : h 86 9 = nI (s.1 1 0) := I.1.2.1
  have hn := O.1.n
  refine td_entry rfl (Nat.le_of_ble_eq_true rfl) rfl (gX10_without_0 (c := s.1) (cσ13 := s.1) (cσ17 := cfgW s.1 (ix x1)) ?_)
  rw [e9]
  by_cases ok : isP s.1 x1
  · have ea : rWout s.1 x1 = nI (lossE s.1) - nI (lossE (cfgW s.1 (ix x1))) := by unfold rWout; rw [if_pos ok]
    rw [ea]
    obtain ⟨p, hp, rfl, ep, v12⟩ := isP_of O.1 ok
    rw [ep]
    refine ⟨fun _ => ⟨O.1, O.2.1, I.1, fun h2 hh => ⟨hh.2, fun h3 h33 => ?_⟩⟩, fun y => absurd ((in64b (by omega)).mpr ok) (bz y)⟩
    have C3 := h33.1.C hh.2
    have C4 : rmC (cfgW s.1 p) (hu h3 85 2 (nI p)) := by
      obtain ⟨w, a1, a2, a3, a4⟩ := C3
      refine ⟨cfgW_wf w p, fun i hi => ?_, ?_, fun q hq => ?_, ?_⟩
      · rw [hu_app, if_neg (by omega), cfgW_o _ _ _ _ (by decide)]; exact a1 i hi
      · rw [hu_app, if_neg (by omega), cfgW_o _ _ _ _ (by decide)]; exact a2
      · rw [cfgW_o _ _ _ _ (by decide)] at hq
        rw [hu_app, if_neg (by omega), hu_app, if_neg (by omega), hu_app, if_neg (by omega), cfgW_o _ _ _ _ (by decide), cfgW_o _ _ _ _ (by decide), cfgW_o _ _ _ _ (by decide)]; exact a3 q hq
      · have e5 : cfgW s.1 p 5 0 = p := by unfold cfgW; rw [nu_app]; exact if_pos ⟨rfl, rfl⟩
        rw [hu_app, if_pos ⟨rfl, rfl⟩, e5, if_pos (by omega)]
    refine ⟨C4, fun h4 h44 => ⟨?_, I.q ((hh.1.N.tr h33.1.N).tr (fun a b z => by rw [h44.1 a b (fun w => z (by unfold simP at w; unfold qR; omega)), hu_app, if_neg (fun w => z (by unfold qR; omega))]))⟩⟩
    have k3 := h33.2.2.2.2.2.1
    have k4 := h44.2.2.2.2.2.1
    rw [tau_o s.1 120 8 3 (by decide)] at k3
    rw [tau_o (cfgW s.1 p) 120 8 3 (by decide)] at k4
    rw [k3, k4]
    rfl
  · have ea : rWout s.1 x1 = -100001 := by unfold rWout; rw [if_neg ok]
    rw [ea]
    exact ⟨fun y => absurd ((in64b (by omega)).mp (bnz y)) ok, fun _ => ⟨rfl, I, FD.rf h⟩⟩
/-! image, restore -/
set_option maxRecDepth 20000 in
set_option maxHeartbeats 4000000 in
theorem gX10_image_0 {G : td_G} {d : Nat} {Post : td_P} {h : td_H} (K : td_J G d mX10_image Post 2 [(0, .ref 85), (1, .int 0)] [] h) : td_J G d mX10_image Post 0 [(0, .ref 85)] [] h := by
  refine td_iconst (v := 0) dX10_image_0 (by decide) ?_
  refine td_istore_n (lv2 := [(0, .ref 85), (1, .int 0)]) dX10_image_1 (by decide) rfl ?_
  exact K
set_option maxRecDepth 20000 in
set_option maxHeartbeats 4000000 in
theorem gX10_image_2 {G : td_G} {d : Nat} {Post : td_P} {x1 : Int32} {h : td_H} (K : (46 ≤ x1 → (Post (some (.int 1)) (hu h 85 27 1))) ∧ (¬ 46 ≤ x1 → (vp_in x1 46 ∧ (td_J G d mX10_image Post 2 [(0, .ref 85), (1, .int (x1 + 1))] [] (hu h 103 (ix x1) (h 86 (ix x1))))))) : td_J G d mX10_image Post 2 [(0, .ref 85), (1, .int x1)] [] h := by
  refine td_iload_n 1 dX10_image_2 rfl ?_
  refine td_bipush (v := 46) dX10_image_3 (by decide) ?_
  obtain ⟨Kt, Kf⟩ := K
  refine td_icmp_ge (tgt := 26) dX10_image_5 (by decide) (fun q5 => ?_) (fun q5 => ?_)
  · have K := Kt q5
    refine td_aload_n 0 dX10_image_26 rfl ?_
    refine td_iconst (v := 1) dX10_image_27 (by decide) ?_
    refine pf_X10_262 rfl kp_85 (by decide) dX10_image_28 ?_
    refine td_iconst (v := 1) dX10_image_31 (by decide) ?_
    exact td_ireturn rfl dX10_image_32 K
  · have K := Kf q5
    refine td_aload_n 0 dX10_image_8 rfl ?_
    refine gf_X10_61 rfl kp_85 dX10_image_9 ?_
    refine td_iload_n 1 dX10_image_12 rfl ?_
    refine td_aload_n 0 dX10_image_13 rfl ?_
    refine gf_X10_7 rfl kp_85 dX10_image_14 ?_
    refine td_iload_n 1 dX10_image_17 rfl ?_
    obtain ⟨e18, K⟩ := K
    refine td_ialdc (j := (ix x1)) kp_86 (by decide) e18 rfl dX10_image_18 ?_
    refine td_iastc (j := (ix x1)) kp_103 (by decide) e18 rfl dX10_image_19 ?_
    refine td_iinc 1 (v := x1 + 1) (lv2 := [(0, .ref 85), (1, .int (x1 + 1))]) dX10_image_20 rfl (congrArg (x1 + ·) (by decide)) (by decide) rfl ?_
    refine td_goto (tgt := 2) dX10_image_23 (by decide) ?_
    exact K
theorem M_image {G : td_G} {d : Nat} {h : td_H} {s : gS} (O : OK s) (I : MI s h) : td_C G d mX10_image [.ref 85] h (mPost 1 (s.1, some s.1, s.2.2) h) := by
  refine td_entry rfl (Nat.le_of_ble_eq_true rfl) rfl (gX10_image_0 ?_)
  refine td_forH 46 (fun k => [(0, .ref 85), (1, .int (nI k))]) (fun k h2 => (∀ a b, a ≠ 103 → h2 a b = h a b) ∧ ∀ i, i < k → h2 103 i = h 86 i) rfl ⟨fun _ _ _ => rfl, fun i hi => absurd hi (by omega)⟩ (fun k hk h2 hI ih => ?_) (fun h2 hI => ?_)
  · obtain ⟨hF, hV⟩ := hI
    refine gX10_image_2 ⟨fun y => absurd (le_of (a := 46) y) (by omega), fun _ => ⟨vp_in_nI hk (by decide), ?_⟩⟩
    rw [ixn (i := k) (by omega), hF 86 k (by decide)]
    refine td_to (ih _ ⟨fun a b z => ?_, fun i hi => ?_⟩) (by rw [nI_1]) rfl rfl
    · rw [hu_app, if_neg (fun w => z w.1)]; exact hF a b z
    · rw [hu_app]
      by_cases e : i = k
      · rw [if_pos ⟨rfl, e⟩, e]
      · rw [if_neg (fun w => e w.2)]; exact hV i (by omega)
  · obtain ⟨hF, hV⟩ := hI
    have hn := O.1.n
    have e : ∀ a b, a ≠ 103 → ¬ (a = 85 ∧ b = 27) → (hu h2 85 27 1) a b = h a b := fun a b z w => by rw [hu_app, if_neg w]; exact hF a b z
    have e3 : ∀ i, i < 46 → (hu h2 85 27 1) 103 i = h 86 i := fun i hi => by rw [hu_app, if_neg (by omega)]; exact hV i hi
    refine gX10_image_2 ⟨fun _ => ⟨rfl, ⟨I.1.fr (fun b => e _ _ (by decide) (by omega)), ⟨by rw [hu_app, if_pos ⟨rfl, rfl⟩], fun i hi => ?_, ?_, fun p hp => ?_⟩, I.2.2.1.fr (e _ _ (by decide) (by omega)) (fun b => e _ _ (by decide) (by omega)), I.2.2.2.fr (fun a b z => e _ _ (by omega) (by omega))⟩, fun a b z => e a b (by omega) (by omega)⟩, fun y => absurd (nle_of (a := 46) (b := 46) y) (by omega)⟩
    · rw [e3 i (by omega)]; exact I.1.1 i hi
    · rw [e3 9 (by omega)]; exact I.1.2.1
    · rw [e3 _ (by omega), e3 _ (by omega), e3 _ (by omega)]; exact I.1.2.2 p hp
set_option maxRecDepth 20000 in
set_option maxHeartbeats 4000000 in
theorem gX10_restore_0 {G : td_G} {d : Nat} {Post : td_P} {h : td_H} (K : (¬ (h 85 27) = 0 → td_J G d mX10_restore Post 12 [(0, .ref 85), (1, .int 0)] [] h) ∧ ((h 85 27) = 0 → (Post (some (.int (-4))) h))) : td_J G d mX10_restore Post 0 [(0, .ref 85)] [] h := by
  refine td_aload_n 0 dX10_restore_0 rfl ?_
  refine gf_X10_262 rfl kp_85 dX10_restore_1 ?_
  obtain ⟨Kt, Kf⟩ := K
  refine td_if_ne (tgt := 10) dX10_restore_4 (by decide) (fun q4 => ?_) (fun q4 => ?_)
  · have K := Kt q4
    refine td_iconst (v := 0) dX10_restore_10 (by decide) ?_
    refine td_istore_n (lv2 := [(0, .ref 85), (1, .int 0)]) dX10_restore_11 (by decide) rfl ?_
    exact K
  · have K := Kf q4
    refine td_bipush (v := (-4)) dX10_restore_7 (by decide) ?_
    exact td_ireturn rfl dX10_restore_9 K
set_option maxRecDepth 20000 in
set_option maxHeartbeats 4000000 in
theorem gX10_restore_12 {G : td_G} {d : Nat} {Post : td_P} {x1 : Int32} {h : td_H} (K : (46 ≤ x1 → (Post (some (.int 1)) h)) ∧ (¬ 46 ≤ x1 → (vp_in x1 46 ∧ (td_J G d mX10_restore Post 12 [(0, .ref 85), (1, .int (x1 + 1))] [] (hu h 86 (ix x1) (h 103 (ix x1))))))) : td_J G d mX10_restore Post 12 [(0, .ref 85), (1, .int x1)] [] h := by
  refine td_iload_n 1 dX10_restore_12 rfl ?_
  refine td_bipush (v := 46) dX10_restore_13 (by decide) ?_
  obtain ⟨Kt, Kf⟩ := K
  refine td_icmp_ge (tgt := 36) dX10_restore_15 (by decide) (fun q15 => ?_) (fun q15 => ?_)
  · have K := Kt q15
    refine td_iconst (v := 1) dX10_restore_36 (by decide) ?_
    exact td_ireturn rfl dX10_restore_37 K
  · have K := Kf q15
    refine td_aload_n 0 dX10_restore_18 rfl ?_
    refine gf_X10_7 rfl kp_85 dX10_restore_19 ?_
    refine td_iload_n 1 dX10_restore_22 rfl ?_
    refine td_aload_n 0 dX10_restore_23 rfl ?_
    refine gf_X10_61 rfl kp_85 dX10_restore_24 ?_
    refine td_iload_n 1 dX10_restore_27 rfl ?_
    obtain ⟨e28, K⟩ := K
    refine td_ialdc (j := (ix x1)) kp_103 (by decide) e28 rfl dX10_restore_28 ?_
    refine td_iastc (j := (ix x1)) kp_86 (by decide) e28 rfl dX10_restore_29 ?_
    refine td_iinc 1 (v := x1 + 1) (lv2 := [(0, .ref 85), (1, .int (x1 + 1))]) dX10_restore_30 rfl (congrArg (x1 + ·) (by decide)) (by decide) rfl ?_
    refine td_goto (tgt := 12) dX10_restore_33 (by decide) ?_
    exact K
theorem M_restore {G : td_G} {d : Nat} {h : td_H} {s : gS} (I : MI s h) : (∀ g2, s.2.1 = some g2 → g2 1 0 ≤ 12 → td_C G d mX10_restore [.ref 85] h (mPost 1 (g2, s.2) h)) ∧ (s.2.1 = none → td_C G d mX10_restore [.ref 85] h (mPost (-4) s h)) := by
  refine ⟨fun g2 e2 hn => ?_, fun e2 => ?_⟩
  · have k : kpM (some g2) h := by have z := I.2.1; rw [e2] at z; exact z
    refine td_entry rfl (Nat.le_of_ble_eq_true rfl) rfl (gX10_restore_0 ⟨fun _ => ?_, fun y => ?_⟩)
    · refine td_forH 46 (fun k => [(0, .ref 85), (1, .int (nI k))]) (fun k h2 => (∀ a b, a ≠ 86 → h2 a b = h a b) ∧ ∀ i, i < k → h2 86 i = h 103 i) rfl ⟨fun _ _ _ => rfl, fun i hi => absurd hi (by omega)⟩ (fun k hk h2 hI ih => ?_) (fun h2 hI => ?_)
      · obtain ⟨hF, hV⟩ := hI
        refine gX10_restore_12 ⟨fun y => absurd (le_of (a := 46) y) (by omega), fun _ => ⟨vp_in_nI hk (by decide), ?_⟩⟩
        rw [ixn (i := k) (by omega), hF 103 k (by decide)]
        refine td_to (ih _ ⟨fun a b z => ?_, fun i hi => ?_⟩) (by rw [nI_1]) rfl rfl
        · rw [hu_app, if_neg (fun w => z w.1)]; exact hF a b z
        · rw [hu_app]
          by_cases e : i = k
          · rw [if_pos ⟨rfl, e⟩, e]
          · rw [if_neg (fun w => e w.2)]; exact hV i (by omega)
      · obtain ⟨hF, hV⟩ := hI
        refine gX10_restore_12 ⟨fun _ => ⟨rfl, I.plan g2 ⟨fun i hi => ?_, ?_, fun p hp => ?_⟩ hF⟩, fun y => absurd (nle_of (a := 46) (b := 46) y) (by omega)⟩
        · rw [hV i (by omega)]; exact k.2.1 i hi
        · rw [hV 9 (by omega)]; exact k.2.2.1
        · rw [hV _ (by omega), hV _ (by omega), hV _ (by omega)]; exact k.2.2.2 p hp
    · rw [k.1] at y; exact absurd y (by decide)
  · have k : kpM none h := by have z := I.2.1; rw [e2] at z; exact z
    exact td_entry rfl (Nat.le_of_ble_eq_true rfl) rfl (gX10_restore_0 ⟨fun y => absurd k y, fun _ => ⟨rfl, I, FD.rf h⟩⟩)
