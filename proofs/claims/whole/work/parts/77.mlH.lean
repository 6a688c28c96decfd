/-! ===== the model: orders, the law of it ===== -/
set_option maxRecDepth 20000 in
set_option maxHeartbeats 4000000 in
theorem gX10_orders_0 {G : td_G} {d : Nat} {Post : td_P} {c : nH} {x1 x2 : Int32} {h : td_H} (K : ((b2i (1 ≤ x1.toInt64 ∧ x1.toInt64 ≤ (((jshl 1 (h 86 9)) - 1).toInt64))) = 0 → (Post (some (.int (-1))) h)) ∧ (¬ (b2i (1 ≤ x1.toInt64 ∧ x1.toInt64 ≤ (((jshl 1 (h 86 9)) - 1).toInt64))) = 0 → ((6 < (nI (onN (x1).toBitVec.toNat (x1).toBitVec.toNat)) → (Post (some (.int (-1))) h)) ∧ (¬ 6 < (nI (onN (x1).toBitVec.toNat (x1).toBitVec.toNat)) → ((¬ (b2i ((-2) ≤ x2.toInt64 ∧ x2.toInt64 ≤ (((nI (onN (x1).toBitVec.toNat (x1).toBitVec.toNat)) - 1).toInt64))) = 0 → (wfC c ∧ 12 ≤ c 5 0 ∧ mZ c 86 h ∧ (∀ h50 : td_H, (FrA h h50 ∧ rmC c h50) → (td_J G (d + 7) mX10_orders Post 59 [(0, .ref 85), (1, .int x1), (2, .int x2), (3, .int (nI (onN (x1).toBitVec.toNat (x1).toBitVec.toNat))), (4, .int 0), (5, .int 0)] [] h50)))) ∧ ((b2i ((-2) ≤ x2.toInt64 ∧ x2.toInt64 ≤ (((nI (onN (x1).toBitVec.toNat (x1).toBitVec.toNat)) - 1).toInt64))) = 0 → (Post (some (.int (-1))) h))))))) : td_J G (d + 7) mX10_orders Post 0 [(0, .ref 85), (1, .int x1), (2, .int x2)] [] h := by
  refine td_iload_n 1 dX10_orders_0 rfl ?_
  refine cl_X10_233 rfl dX10_orders_1 (Nat.le_of_ble_eq_true rfl) (c_ones x1) (eR_k ?_)
  refine td_eqs (st2 := [.int (nI (onN (x1).toBitVec.toNat (x1).toBitVec.toNat))]) rfl ?_
  refine td_istore_n (lv2 := [(0, .ref 85), (1, .int x1), (2, .int x2), (3, .int (nI (onN (x1).toBitVec.toNat (x1).toBitVec.toNat)))]) dX10_orders_4 (by decide) rfl ?_
  refine td_iload_n 1 dX10_orders_5 rfl ?_
  refine td_i2l dX10_orders_6 ?_
  refine td_lconst (v := 1) dX10_orders_7 (by decide) ?_
  refine td_iconst (v := 1) dX10_orders_8 (by decide) ?_
  refine td_aload_n 0 dX10_orders_9 rfl ?_
  refine gf_X10_7 rfl kp_85 dX10_orders_10 ?_
  refine td_bipush (v := 9) dX10_orders_13 (by decide) ?_
  refine td_ialdc (j := 9) kp_86 (by decide) (by unfold vp_in; decide) (by decide) dX10_orders_15 ?_
  refine td_ishl dX10_orders_16 ?_
  refine td_iconst (v := 1) dX10_orders_17 (by decide) ?_
  refine td_isub dX10_orders_18 ?_
  refine td_i2l dX10_orders_19 ?_
  refine cl_X10_75 rfl dX10_orders_20 (Nat.le_of_ble_eq_true rfl) (c_in x1.toInt64 1 (((jshl 1 (h 86 9)) - 1).toInt64)) (eR_k ?_)
  refine td_eqs (st2 := [.int (b2i (1 ≤ x1.toInt64 ∧ x1.toInt64 ≤ (((jshl 1 (h 86 9)) - 1).toInt64)))]) rfl ?_
  obtain ⟨Kt, Kf⟩ := K
  refine td_if_eq (tgt := 47) dX10_orders_23 (by decide) (fun q23 => ?_) (fun q23 => ?_)
  · have K := Kt q23
    refine td_iconst (v := (-1)) dX10_orders_47 (by decide) ?_
    exact td_ireturn rfl dX10_orders_48 K
  · have K := Kf q23
    refine td_iload_n 3 dX10_orders_26 rfl ?_
    refine td_bipush (v := 6) dX10_orders_27 (by decide) ?_
    obtain ⟨Kt, Kf⟩ := K
    refine td_icmp_gt (tgt := 47) dX10_orders_29 (by decide) (fun q29 => ?_) (fun q29 => ?_)
    · have K := Kt q29
      refine td_iconst (v := (-1)) dX10_orders_47 (by decide) ?_
      exact td_ireturn rfl dX10_orders_48 K
    · have K := Kf q29
      refine td_iload_n 2 dX10_orders_32 rfl ?_
      refine td_i2l dX10_orders_33 ?_
      refine td_ldc2 (v := (-2)) kw_X10_245 dX10_orders_34 ?_
      refine td_iload_n 3 dX10_orders_37 rfl ?_
      refine td_iconst (v := 1) dX10_orders_38 (by decide) ?_
      refine td_isub dX10_orders_39 ?_
      refine td_i2l dX10_orders_40 ?_
      refine cl_X10_75 rfl dX10_orders_41 (Nat.le_of_ble_eq_true rfl) (c_in x2.toInt64 (-2) (((nI (onN (x1).toBitVec.toNat (x1).toBitVec.toNat)) - 1).toInt64)) (eR_k ?_)
      refine td_eqs (st2 := [.int (b2i ((-2) ≤ x2.toInt64 ∧ x2.toInt64 ≤ (((nI (onN (x1).toBitVec.toNat (x1).toBitVec.toNat)) - 1).toInt64)))]) rfl ?_
      obtain ⟨Kt, Kf⟩ := K
      refine td_if_ne (tgt := 49) dX10_orders_44 (by decide) (fun q44 => ?_) (fun q44 => ?_)
      · have K := Kt q44
        refine td_aload_n 0 dX10_orders_49 rfl ?_
        obtain ⟨e50_0, K⟩ := K
        obtain ⟨e50_1, K⟩ := K
        obtain ⟨e50_2, K⟩ := K
        refine cl_X10_104 rfl kp_85 dX10_orders_50 (Nat.le_of_ble_eq_true rfl) (c_asTold c e50_0 e50_1 e50_2) ?_
        rintro _ h50 ⟨rfl, f50⟩
        have K := K h50 f50
        refine td_eqs (st2 := []) rfl ?_
        refine td_iconst (v := 0) dX10_orders_53 (by decide) ?_
        refine td_istore (lv2 := [(0, .ref 85), (1, .int x1), (2, .int x2), (3, .int (nI (onN (x1).toBitVec.toNat (x1).toBitVec.toNat))), (4, .int 0)]) dX10_orders_54 (by decide) rfl ?_
        refine td_iconst (v := 0) dX10_orders_56 (by decide) ?_
        refine td_istore (lv2 := [(0, .ref 85), (1, .int x1), (2, .int x2), (3, .int (nI (onN (x1).toBitVec.toNat (x1).toBitVec.toNat))), (4, .int 0), (5, .int 0)]) dX10_orders_57 (by decide) rfl ?_
        exact K
      · have K := Kf q44
        refine td_iconst (v := (-1)) dX10_orders_47 (by decide) ?_
        exact td_ireturn rfl dX10_orders_48 K
set_option maxRecDepth 20000 in
set_option maxHeartbeats 4000000 in
theorem gX10_orders_59 {G : td_G} {d : Nat} {Post : td_P} {x1 x2 x3 x4 x5 : Int32} {h : td_H} (K : ((h 86 9) ≤ x5 → td_J G (d + 7) mX10_orders Post 101 [(0, .ref 85), (1, .int x1), (2, .int x2), (3, .int x3), (4, .int x4), (5, .int 0)] [] h) ∧ (¬ (h 86 9) ≤ x5 → ((¬ (b2i ((jshr x1 x5) &&& 1 = 1)) = 0 → (vp_in x4 6 ∧ True)) ∧ (td_J G (d + 7) mX10_orders Post 59 [(0, .ref 85), (1, .int x1), (2, .int x2), (3, .int x3), (4, .int (if (b2i ((jshr x1 x5) &&& 1 = 1)) = 0 then x4 else (x4 + 1) : Int32)), (5, .int (x5 + 1))] [] (if (b2i ((jshr x1 x5) &&& 1 = 1)) = 0 then h else (hu h 99 (ix x4) x5) : td_H))))) : td_J G (d + 7) mX10_orders Post 59 [(0, .ref 85), (1, .int x1), (2, .int x2), (3, .int x3), (4, .int x4), (5, .int x5)] [] h := by
  refine td_iload 5 dX10_orders_59 rfl ?_
  refine td_aload_n 0 dX10_orders_61 rfl ?_
  refine gf_X10_7 rfl kp_85 dX10_orders_62 ?_
  refine td_bipush (v := 9) dX10_orders_65 (by decide) ?_
  refine td_ialdc (j := 9) kp_86 (by decide) (by unfold vp_in; decide) (by decide) dX10_orders_67 ?_
  obtain ⟨Kt, Kf⟩ := K
  refine td_icmp_ge (tgt := 98) dX10_orders_68 (by decide) (fun q68 => ?_) (fun q68 => ?_)
  · have K := Kt q68
    refine td_iconst (v := 0) dX10_orders_98 (by decide) ?_
    refine td_istore (lv2 := [(0, .ref 85), (1, .int x1), (2, .int x2), (3, .int x3), (4, .int x4), (5, .int 0)]) dX10_orders_99 (by decide) rfl ?_
    exact K
  · have K := Kf q68
    refine td_iload_n 1 dX10_orders_71 rfl ?_
    refine td_iload 5 dX10_orders_72 rfl ?_
    refine cl_X10_166 rfl dX10_orders_74 (Nat.le_of_ble_eq_true rfl) (c_has x1 x5) (eR_k ?_)
    refine td_eqs (st2 := [.int (b2i ((jshr x1 x5) &&& 1 = 1))]) rfl ?_
    obtain ⟨Ks77, K⟩ := K
    have KJ92 : td_J G (d + 7) mX10_orders Post 92 [(0, .ref 85), (1, .int x1), (2, .int x2), (3, .int x3), (4, .int (if (b2i ((jshr x1 x5) &&& 1 = 1)) = 0 then x4 else (x4 + 1) : Int32)), (5, .int x5)] [] (if (b2i ((jshr x1 x5) &&& 1 = 1)) = 0 then h else (hu h 99 (ix x4) x5) : td_H) := by
      refine td_iinc 5 (v := x5 + 1) (lv2 := [(0, .ref 85), (1, .int x1), (2, .int x2), (3, .int x3), (4, .int (if (b2i ((jshr x1 x5) &&& 1 = 1)) = 0 then x4 else (x4 + 1) : Int32)), (5, .int (x5 + 1))]) dX10_orders_92 rfl (congrArg (x5 + ·) (by decide)) (by decide) rfl ?_
      refine td_goto (tgt := 59) dX10_orders_95 (by decide) ?_
      exact K
    refine td_if_eq (tgt := 92) dX10_orders_77 (by decide) (fun q77 => ?_) (fun q77 => ?_)
    · skip
      exact td_to KJ92 (by rw [show (if (b2i ((jshr x1 x5) &&& 1 = 1)) = 0 then x4 else (x4 + 1) : Int32) = _ from if_pos q77]) rfl (by rw [show (if (b2i ((jshr x1 x5) &&& 1 = 1)) = 0 then h else (hu h 99 (ix x4) x5) : td_H) = _ from if_pos q77])
    · have K := Ks77 q77
      refine td_aload_n 0 dX10_orders_80 rfl ?_
      refine gf_X10_49 rfl kp_85 dX10_orders_81 ?_
      refine td_iload 4 dX10_orders_84 rfl ?_
      refine td_iload 5 dX10_orders_86 rfl ?_
      obtain ⟨e88, K⟩ := K
      refine td_iastc (j := (ix x4)) kp_99 (by decide) e88 rfl dX10_orders_88 ?_
      refine td_iinc 4 (v := x4 + 1) (lv2 := [(0, .ref 85), (1, .int x1), (2, .int x2), (3, .int x3), (4, .int (x4 + 1)), (5, .int x5)]) dX10_orders_89 rfl (congrArg (x4 + ·) (by decide)) (by decide) rfl ?_
      exact td_to KJ92 (by rw [show (if (b2i ((jshr x1 x5) &&& 1 = 1)) = 0 then x4 else (x4 + 1) : Int32) = _ from if_neg q77]) rfl (by rw [show (if (b2i ((jshr x1 x5) &&& 1 = 1)) = 0 then h else (hu h 99 (ix x4) x5) : td_H) = _ from if_neg q77])
set_option maxRecDepth 20000 in
set_option maxHeartbeats 4000000 in
theorem gX10_orders_101 {G : td_G} {d : Nat} {Post : td_P} {x1 x2 x3 x4 x5 : Int32} {h : td_H} (K : (x3 ≤ x5 → td_J G (d + 7) mX10_orders Post 213 [(0, .ref 85), (1, .int x1), (2, .int x2), (3, .int x3), (4, .int x4), (5, .int 0), (6, .int 0), (7, .int 0), (8, .int 1)] [] h) ∧ (¬ x3 ≤ x5 → td_J G (d + 7) mX10_orders Post 111 [(0, .ref 85), (1, .int x1), (2, .int x2), (3, .int x3), (4, .int x4), (5, .int x5), (6, .int x5)] [] h)) : td_J G (d + 7) mX10_orders Post 101 [(0, .ref 85), (1, .int x1), (2, .int x2), (3, .int x3), (4, .int x4), (5, .int x5)] [] h := by
  refine td_iload 5 dX10_orders_101 rfl ?_
  refine td_iload_n 3 dX10_orders_103 rfl ?_
  obtain ⟨Kt, Kf⟩ := K
  refine td_icmp_ge (tgt := 201) dX10_orders_104 (by decide) (fun q104 => ?_) (fun q104 => ?_)
  · have K := Kt q104
    refine td_iconst (v := 0) dX10_orders_201 (by decide) ?_
    refine td_istore (lv2 := [(0, .ref 85), (1, .int x1), (2, .int x2), (3, .int x3), (4, .int x4), (5, .int 0)]) dX10_orders_202 (by decide) rfl ?_
    refine td_iconst (v := 0) dX10_orders_204 (by decide) ?_
    refine td_istore (lv2 := [(0, .ref 85), (1, .int x1), (2, .int x2), (3, .int x3), (4, .int x4), (5, .int 0), (6, .int 0)]) dX10_orders_205 (by decide) rfl ?_
    refine td_iconst (v := 0) dX10_orders_207 (by decide) ?_
    refine td_istore (lv2 := [(0, .ref 85), (1, .int x1), (2, .int x2), (3, .int x3), (4, .int x4), (5, .int 0), (6, .int 0), (7, .int 0)]) dX10_orders_208 (by decide) rfl ?_
    refine td_iconst (v := 1) dX10_orders_210 (by decide) ?_
    refine td_istore (lv2 := [(0, .ref 85), (1, .int x1), (2, .int x2), (3, .int x3), (4, .int x4), (5, .int 0), (6, .int 0), (7, .int 0), (8, .int 1)]) dX10_orders_211 (by decide) rfl ?_
    exact K
  · have K := Kf q104
    refine td_iload 5 dX10_orders_107 rfl ?_
    refine td_istore (lv2 := [(0, .ref 85), (1, .int x1), (2, .int x2), (3, .int x3), (4, .int x4), (5, .int x5), (6, .int x5)]) dX10_orders_109 (by decide) rfl ?_
    exact K
set_option maxRecDepth 20000 in
set_option maxHeartbeats 4000000 in
theorem gX10_orders_111 {G : td_G} {d : Nat} {Post : td_P} {x1 x2 x3 x4 x5 x6 : Int32} {h : td_H} (K : (x6 ≤ 0 → (vp_in x5 6 ∧ (vp_in ((10 + (3 * (h 99 (ix x5)))) + 0) 46 ∧ (vp_in x6 6 ∧ (td_J G (d + 7) mX10_orders Post 101 [(0, .ref 85), (1, .int x1), (2, .int x2), (3, .int x3), (4, .int x4), (5, .int (x5 + 1))] [] (hu (hu h 100 (ix x6) (h 86 (ix ((10 + (3 * (h 99 (ix x5)))) + 0)))) 101 (ix x5) ((hu h 100 (ix x6) (h 86 (ix ((10 + (3 * (h 99 (ix x5)))) + 0)))) 99 (ix x5)))))))) ∧ (¬ x6 ≤ 0 → (vp_in (x6 - 1) 6 ∧ (vp_in x5 6 ∧ (vp_in ((10 + (3 * (h 99 (ix x5)))) + 0) 46 ∧ (((h 100 (ix (x6 - 1))) ≤ (h 86 (ix ((10 + (3 * (h 99 (ix x5)))) + 0))) → (vp_in x6 6 ∧ (td_J G (d + 7) mX10_orders Post 101 [(0, .ref 85), (1, .int x1), (2, .int x2), (3, .int x3), (4, .int x4), (5, .int (x5 + 1))] [] (hu (hu h 100 (ix x6) (h 86 (ix ((10 + (3 * (h 99 (ix x5)))) + 0)))) 101 (ix x5) ((hu h 100 (ix x6) (h 86 (ix ((10 + (3 * (h 99 (ix x5)))) + 0)))) 99 (ix x5)))))) ∧ (¬ (h 100 (ix (x6 - 1))) ≤ (h 86 (ix ((10 + (3 * (h 99 (ix x5)))) + 0))) → (vp_in x6 6 ∧ (td_J G (d + 7) mX10_orders Post 111 [(0, .ref 85), (1, .int x1), (2, .int x2), (3, .int x3), (4, .int x4), (5, .int x5), (6, .int (x6 + (-1)))] [] (hu h 100 (ix x6) (h 100 (ix (x6 - 1))))))))))))) : td_J G (d + 7) mX10_orders Post 111 [(0, .ref 85), (1, .int x1), (2, .int x2), (3, .int x3), (4, .int x4), (5, .int x5), (6, .int x6)] [] h := by
  refine td_iload 6 dX10_orders_111 rfl ?_
  obtain ⟨Kt, Kf⟩ := K
  refine td_if_le (tgt := 162) dX10_orders_113 (by decide) (fun q113 => ?_) (fun q113 => ?_)
  · have K := Kt q113
    refine td_aload_n 0 dX10_orders_162 rfl ?_
    refine gf_X10_52 rfl kp_85 dX10_orders_163 ?_
    refine td_iload 6 dX10_orders_166 rfl ?_
    refine td_aload_n 0 dX10_orders_168 rfl ?_
    refine td_aload_n 0 dX10_orders_169 rfl ?_
    refine gf_X10_49 rfl kp_85 dX10_orders_170 ?_
    refine td_iload 5 dX10_orders_173 rfl ?_
    obtain ⟨e175, K⟩ := K
    refine td_ialdc (j := (ix x5)) kp_99 (by decide) e175 rfl dX10_orders_175 ?_
    refine td_iconst (v := 0) dX10_orders_176 (by decide) ?_
    obtain ⟨e177_0, K⟩ := K
    refine cl_X10_94 rfl kp_85 dX10_orders_177 (Nat.le_of_ble_eq_true rfl) (c_of (h 99 (ix x5)) 0 e177_0) (eR_k ?_)
    refine td_eqs (st2 := [.int (h 86 (ix ((10 + (3 * (h 99 (ix x5)))) + 0))), .int x6, .ref 100]) rfl ?_
    obtain ⟨e180, K⟩ := K
    refine td_iastc (j := (ix x6)) kp_100 (by decide) e180 rfl dX10_orders_180 ?_
    refine td_aload_n 0 dX10_orders_181 rfl ?_
    refine gf_X10_55 rfl kp_85 dX10_orders_182 ?_
    refine td_iload 5 dX10_orders_185 rfl ?_
    refine td_aload_n 0 dX10_orders_187 rfl ?_
    refine gf_X10_49 rfl kp_85 dX10_orders_188 ?_
    refine td_iload 5 dX10_orders_191 rfl ?_
    refine td_ialdc (j := (ix x5)) kp_99 (by decide) e175 rfl dX10_orders_193 ?_
    refine td_iastc (j := (ix x5)) kp_101 (by decide) e175 rfl dX10_orders_194 ?_
    refine td_iinc 5 (v := x5 + 1) (lv2 := [(0, .ref 85), (1, .int x1), (2, .int x2), (3, .int x3), (4, .int x4), (5, .int (x5 + 1)), (6, .int x6)]) dX10_orders_195 rfl (congrArg (x5 + ·) (by decide)) (by decide) rfl ?_
    refine td_goto (tgt := 101) dX10_orders_198 (by decide) ?_
    refine td_drop (lv2 := [(0, .ref 85), (1, .int x1), (2, .int x2), (3, .int x3), (4, .int x4), (5, .int (x5 + 1))]) [0, 1, 2, 3, 4, 5] rfl ?_
    exact K
  · have K := Kf q113
    refine td_aload_n 0 dX10_orders_116 rfl ?_
    refine gf_X10_52 rfl kp_85 dX10_orders_117 ?_
    refine td_iload 6 dX10_orders_120 rfl ?_
    refine td_iconst (v := 1) dX10_orders_122 (by decide) ?_
    refine td_isub dX10_orders_123 ?_
    obtain ⟨e124, K⟩ := K
    refine td_ialdc (j := (ix (x6 - 1))) kp_100 (by decide) e124 rfl dX10_orders_124 ?_
    refine td_aload_n 0 dX10_orders_125 rfl ?_
    refine td_aload_n 0 dX10_orders_126 rfl ?_
    refine gf_X10_49 rfl kp_85 dX10_orders_127 ?_
    refine td_iload 5 dX10_orders_130 rfl ?_
    obtain ⟨e132, K⟩ := K
    refine td_ialdc (j := (ix x5)) kp_99 (by decide) e132 rfl dX10_orders_132 ?_
    refine td_iconst (v := 0) dX10_orders_133 (by decide) ?_
    obtain ⟨e134_0, K⟩ := K
    refine cl_X10_94 rfl kp_85 dX10_orders_134 (Nat.le_of_ble_eq_true rfl) (c_of (h 99 (ix x5)) 0 e134_0) (eR_k ?_)
    refine td_eqs (st2 := [.int (h 86 (ix ((10 + (3 * (h 99 (ix x5)))) + 0))), .int (h 100 (ix (x6 - 1)))]) rfl ?_
    obtain ⟨Kt, Kf⟩ := K
    refine td_icmp_le (tgt := 162) dX10_orders_137 (by decide) (fun q137 => ?_) (fun q137 => ?_)
    · have K := Kt q137
      refine td_aload_n 0 dX10_orders_162 rfl ?_
      refine gf_X10_52 rfl kp_85 dX10_orders_163 ?_
      refine td_iload 6 dX10_orders_166 rfl ?_
      refine td_aload_n 0 dX10_orders_168 rfl ?_
      refine td_aload_n 0 dX10_orders_169 rfl ?_
      refine gf_X10_49 rfl kp_85 dX10_orders_170 ?_
      refine td_iload 5 dX10_orders_173 rfl ?_
      refine td_ialdc (j := (ix x5)) kp_99 (by decide) e132 rfl dX10_orders_175 ?_
      refine td_iconst (v := 0) dX10_orders_176 (by decide) ?_
      refine cl_X10_94 rfl kp_85 dX10_orders_177 (Nat.le_of_ble_eq_true rfl) (c_of (h 99 (ix x5)) 0 e134_0) (eR_k ?_)
      refine td_eqs (st2 := [.int (h 86 (ix ((10 + (3 * (h 99 (ix x5)))) + 0))), .int x6, .ref 100]) rfl ?_
      obtain ⟨e180, K⟩ := K
      refine td_iastc (j := (ix x6)) kp_100 (by decide) e180 rfl dX10_orders_180 ?_
      refine td_aload_n 0 dX10_orders_181 rfl ?_
      refine gf_X10_55 rfl kp_85 dX10_orders_182 ?_
      refine td_iload 5 dX10_orders_185 rfl ?_
      refine td_aload_n 0 dX10_orders_187 rfl ?_
      refine gf_X10_49 rfl kp_85 dX10_orders_188 ?_
      refine td_iload 5 dX10_orders_191 rfl ?_
      refine td_ialdc (j := (ix x5)) kp_99 (by decide) e132 rfl dX10_orders_193 ?_
      refine td_iastc (j := (ix x5)) kp_101 (by decide) e132 rfl dX10_orders_194 ?_
      refine td_iinc 5 (v := x5 + 1) (lv2 := [(0, .ref 85), (1, .int x1), (2, .int x2), (3, .int x3), (4, .int x4), (5, .int (x5 + 1)), (6, .int x6)]) dX10_orders_195 rfl (congrArg (x5 + ·) (by decide)) (by decide) rfl ?_
      refine td_goto (tgt := 101) dX10_orders_198 (by decide) ?_
      refine td_drop (lv2 := [(0, .ref 85), (1, .int x1), (2, .int x2), (3, .int x3), (4, .int x4), (5, .int (x5 + 1))]) [0, 1, 2, 3, 4, 5] rfl ?_
      exact K
    · have K := Kf q137
      refine td_aload_n 0 dX10_orders_140 rfl ?_
      refine gf_X10_52 rfl kp_85 dX10_orders_141 ?_
      refine td_iload 6 dX10_orders_144 rfl ?_
      refine td_aload_n 0 dX10_orders_146 rfl ?_
      refine gf_X10_52 rfl kp_85 dX10_orders_147 ?_
      refine td_iload 6 dX10_orders_150 rfl ?_
      refine td_iconst (v := 1) dX10_orders_152 (by decide) ?_
      refine td_isub dX10_orders_153 ?_
      refine td_ialdc (j := (ix (x6 - 1))) kp_100 (by decide) e124 rfl dX10_orders_154 ?_
      obtain ⟨e155, K⟩ := K
      refine td_iastc (j := (ix x6)) kp_100 (by decide) e155 rfl dX10_orders_155 ?_
      refine td_iinc 6 (v := x6 + (-1)) (lv2 := [(0, .ref 85), (1, .int x1), (2, .int x2), (3, .int x3), (4, .int x4), (5, .int x5), (6, .int (x6 + (-1)))]) dX10_orders_156 rfl (congrArg (x6 + ·) (by decide)) (by decide) rfl ?_
      refine td_goto (tgt := 111) dX10_orders_159 (by decide) ?_
      exact K
set_option maxRecDepth 20000 in
set_option maxHeartbeats 4000000 in
theorem gX10_orders_213 {G : td_G} {d : Nat} {Post : td_P} {x1 x2 x3 x4 x5 x6 x7 x8 : Int32} {h : td_H} (K : (x8 = 0 → ((¬ x2 = (-1) → (¬ x2 = (-2) → (vp_in x2 6 ∧ True))) ∧ (Post (some (.int (if x2 = (-1) then x5 else if x2 = (-2) then x6 else (h 102 (ix x2)) : Int32))) h))) ∧ (¬ x8 = 0 → td_J G (d + 7) mX10_orders Post 221 [(0, .ref 85), (1, .int x1), (2, .int x2), (3, .int x3), (4, .int x4), (5, .int x5), (6, .int x6), (7, .int x7), (8, .int x8), (9, .int 0)] [] h)) : td_J G (d + 7) mX10_orders Post 213 [(0, .ref 85), (1, .int x1), (2, .int x2), (3, .int x3), (4, .int x4), (5, .int x5), (6, .int x6), (7, .int x7), (8, .int x8)] [] h := by
  refine td_iload 8 dX10_orders_213 rfl ?_
  obtain ⟨Kt, Kf⟩ := K
  refine td_if_eq (tgt := 344) dX10_orders_215 (by decide) (fun q215 => ?_) (fun q215 => ?_)
  · have K := Kt q215
    refine td_iload_n 2 dX10_orders_344 rfl ?_
    refine td_iconst (v := (-1)) dX10_orders_345 (by decide) ?_
    obtain ⟨Ks346, K⟩ := K
    have KJ371 : td_J G (d + 7) mX10_orders Post 371 [(0, .ref 85), (1, .int x1), (2, .int x2), (3, .int x3), (4, .int x4), (5, .int x5), (6, .int x6), (7, .int x7), (8, .int x8)] [.int (if x2 = (-1) then x5 else if x2 = (-2) then x6 else (h 102 (ix x2)) : Int32)] h := by
      exact td_ireturn rfl dX10_orders_371 K
    refine td_icmp_ne (tgt := 354) dX10_orders_346 (by decide) (fun q346 => ?_) (fun q346 => ?_)
    · have K := Ks346 q346
      refine td_iload_n 2 dX10_orders_354 rfl ?_
      refine td_bipush (v := (-2)) dX10_orders_355 (by decide) ?_
      refine td_icmp_ne (tgt := 365) dX10_orders_357 (by decide) (fun q357 => ?_) (fun q357 => ?_)
      · have K := K q357
        refine td_aload_n 0 dX10_orders_365 rfl ?_
        refine gf_X10_58 rfl kp_85 dX10_orders_366 ?_
        refine td_iload_n 2 dX10_orders_369 rfl ?_
        obtain ⟨e370, K⟩ := K
        refine td_ialdc (j := (ix x2)) kp_102 (by decide) e370 rfl dX10_orders_370 ?_
        exact td_to KJ371 rfl (by rw [show (if x2 = (-1) then x5 else if x2 = (-2) then x6 else (h 102 (ix x2)) : Int32) = _ from (if_neg q346).trans (if_neg q357)]) rfl
      · skip
        refine td_iload 6 dX10_orders_360 rfl ?_
        refine td_goto (tgt := 371) dX10_orders_362 (by decide) ?_
        exact td_to KJ371 rfl (by rw [show (if x2 = (-1) then x5 else if x2 = (-2) then x6 else (h 102 (ix x2)) : Int32) = _ from (if_neg q346).trans (if_pos q357)]) rfl
    · skip
      refine td_iload 5 dX10_orders_349 rfl ?_
      refine td_goto (tgt := 371) dX10_orders_351 (by decide) ?_
      exact td_to KJ371 rfl (by rw [show (if x2 = (-1) then x5 else if x2 = (-2) then x6 else (h 102 (ix x2)) : Int32) = _ from if_pos q346]) rfl
  · have K := Kf q215
    refine td_iconst (v := 0) dX10_orders_218 (by decide) ?_
    refine td_istore (lv2 := [(0, .ref 85), (1, .int x1), (2, .int x2), (3, .int x3), (4, .int x4), (5, .int x5), (6, .int x6), (7, .int x7), (8, .int x8), (9, .int 0)]) dX10_orders_219 (by decide) rfl ?_
    exact K
set_option maxRecDepth 20000 in
set_option maxHeartbeats 4000000 in
theorem gX10_orders_221 {G : td_G} {d : Nat} {Post : td_P} {kn : Nat} {r : Nat → Nat} {c : nH} {x1 x2 x3 x4 x5 x6 x7 x8 x9 : Int32} {h : td_H} (K : (x3 ≤ x9 → (rmC c h ∧ (∀ h253 : td_H, (Fr h h253 ∧ rmS (sEndK c (sRun c 120) (c 1 0)) h253) → (12 ≤ c 5 0 ∧ rmC c h253 ∧ rmS (tau c) h253 ∧ ((x7 = 0 → td_J G (d + 7) mX10_orders Post 308 [(0, .ref 85), (1, .int x1), (2, .int x2), (3, .int x3), (4, .int x4), (5, .int (nI (lastE c))), (6, .int (nI (wE c))), (7, .int 1), (8, .int x8), (9, .int (nI (lastE c))), (10, .int (nI (wE c))), (11, .int 0)] [] h253) ∧ (¬ x7 = 0 → (((nI (lastE c)) < x5 → td_J G (d + 7) mX10_orders Post 308 [(0, .ref 85), (1, .int x1), (2, .int x2), (3, .int x3), (4, .int x4), (5, .int (nI (lastE c))), (6, .int (nI (wE c))), (7, .int 1), (8, .int x8), (9, .int (nI (lastE c))), (10, .int (nI (wE c))), (11, .int 0)] [] h253) ∧ (¬ (nI (lastE c)) < x5 → ((¬ (nI (lastE c)) = x5 → (x3 = nI kn ∧ 1 ≤ kn ∧ kn ≤ 6 ∧ (∀ a, a < kn → h253 101 a = nI (r a) ∧ r a < 12) ∧ (∀ h336 : td_H, ((∀ a b, a ≠ 101 → h336 a b = h253 a b) ∧ (flF r (kn - 1) ≠ 0 → ∀ a, a < kn → h336 101 a = nI (nxF kn r a))) → (td_J G (d + 7) mX10_orders Post 213 [(0, .ref 85), (1, .int x1), (2, .int x2), (3, .int x3), (4, .int x4), (5, .int x5), (6, .int x6), (7, .int x7), (8, .int (b2i (flF r (kn - 1) ≠ 0)))] [] h336)))) ∧ ((nI (lastE c)) = x5 → ((x6 ≤ (nI (wE c)) → (x3 = nI kn ∧ 1 ≤ kn ∧ kn ≤ 6 ∧ (∀ a, a < kn → h253 101 a = nI (r a) ∧ r a < 12) ∧ (∀ h336 : td_H, ((∀ a b, a ≠ 101 → h336 a b = h253 a b) ∧ (flF r (kn - 1) ≠ 0 → ∀ a, a < kn → h336 101 a = nI (nxF kn r a))) → (td_J G (d + 7) mX10_orders Post 213 [(0, .ref 85), (1, .int x1), (2, .int x2), (3, .int x3), (4, .int x4), (5, .int x5), (6, .int x6), (7, .int x7), (8, .int (b2i (flF r (kn - 1) ≠ 0)))] [] h336)))) ∧ (¬ x6 ≤ (nI (wE c)) → td_J G (d + 7) mX10_orders Post 308 [(0, .ref 85), (1, .int x1), (2, .int x2), (3, .int x3), (4, .int x4), (5, .int (nI (lastE c))), (6, .int (nI (wE c))), (7, .int 1), (8, .int x8), (9, .int (nI (lastE c))), (10, .int (nI (wE c))), (11, .int 0)] [] h253)))))))))))) ∧ (¬ x3 ≤ x9 → (vp_in x9 6 ∧ (vp_in (h 101 (ix x9)) 12 ∧ (td_J G (d + 7) mX10_orders Post 221 [(0, .ref 85), (1, .int x1), (2, .int x2), (3, .int x3), (4, .int x4), (5, .int x5), (6, .int x6), (7, .int x7), (8, .int x8), (9, .int (x9 + 1))] [] (hu h 88 (ix (h 101 (ix x9))) (h 100 (ix x9)))))))) : td_J G (d + 7) mX10_orders Post 221 [(0, .ref 85), (1, .int x1), (2, .int x2), (3, .int x3), (4, .int x4), (5, .int x5), (6, .int x6), (7, .int x7), (8, .int x8), (9, .int x9)] [] h := by
  refine td_iload 9 dX10_orders_221 rfl ?_
  refine td_iload_n 3 dX10_orders_223 rfl ?_
  obtain ⟨Kt, Kf⟩ := K
  refine td_icmp_ge (tgt := 252) dX10_orders_224 (by decide) (fun q224 => ?_) (fun q224 => ?_)
  · have K := Kt q224
    refine td_aload_n 0 dX10_orders_252 rfl ?_
    obtain ⟨e253_0, K⟩ := K
    refine cl_X10_228 rfl kp_85 dX10_orders_253 (Nat.le_of_ble_eq_true rfl) (c_run c e253_0) ?_
    rintro _ h253 ⟨rfl, f253⟩
    have K := K h253 f253
    refine td_eqs (st2 := []) rfl ?_
    refine td_aload_n 0 dX10_orders_256 rfl ?_
    obtain ⟨e257_0, K⟩ := K
    obtain ⟨e257_1, K⟩ := K
    obtain ⟨e257_2, K⟩ := K
    refine cl_X10_236 rfl kp_85 dX10_orders_257 (Nat.le_of_ble_eq_true rfl) (c_lastT c e257_0 e257_1 e257_2) (eR_k ?_)
    refine td_eqs (st2 := [.int (nI (lastE c))]) rfl ?_
    refine td_istore (lv2 := [(0, .ref 85), (1, .int x1), (2, .int x2), (3, .int x3), (4, .int x4), (5, .int x5), (6, .int x6), (7, .int x7), (8, .int x8), (9, .int (nI (lastE c)))]) dX10_orders_260 (by decide) rfl ?_
    refine td_aload_n 0 dX10_orders_262 rfl ?_
    refine cl_X10_239 rfl kp_85 dX10_orders_263 (Nat.le_of_ble_eq_true rfl) (c_allW c e257_1 e257_2) (eR_k ?_)
    refine td_eqs (st2 := [.int (nI (wE c))]) rfl ?_
    refine td_istore (lv2 := [(0, .ref 85), (1, .int x1), (2, .int x2), (3, .int x3), (4, .int x4), (5, .int x5), (6, .int x6), (7, .int x7), (8, .int x8), (9, .int (nI (lastE c))), (10, .int (nI (wE c)))]) dX10_orders_266 (by decide) rfl ?_
    refine td_iload 7 dX10_orders_268 rfl ?_
    obtain ⟨Kt, Kf⟩ := K
    refine td_if_eq (tgt := 294) dX10_orders_270 (by decide) (fun q270 => ?_) (fun q270 => ?_)
    · have K := Kt q270
      refine td_iconst (v := 1) dX10_orders_294 (by decide) ?_
      refine td_istore (lv2 := [(0, .ref 85), (1, .int x1), (2, .int x2), (3, .int x3), (4, .int x4), (5, .int x5), (6, .int x6), (7, .int 1), (8, .int x8), (9, .int (nI (lastE c))), (10, .int (nI (wE c)))]) dX10_orders_295 (by decide) rfl ?_
      refine td_iload 9 dX10_orders_297 rfl ?_
      refine td_istore (lv2 := [(0, .ref 85), (1, .int x1), (2, .int x2), (3, .int x3), (4, .int x4), (5, .int (nI (lastE c))), (6, .int x6), (7, .int 1), (8, .int x8), (9, .int (nI (lastE c))), (10, .int (nI (wE c)))]) dX10_orders_299 (by decide) rfl ?_
      refine td_iload 10 dX10_orders_301 rfl ?_
      refine td_istore (lv2 := [(0, .ref 85), (1, .int x1), (2, .int x2), (3, .int x3), (4, .int x4), (5, .int (nI (lastE c))), (6, .int (nI (wE c))), (7, .int 1), (8, .int x8), (9, .int (nI (lastE c))), (10, .int (nI (wE c)))]) dX10_orders_303 (by decide) rfl ?_
      refine td_iconst (v := 0) dX10_orders_305 (by decide) ?_
      refine td_istore (lv2 := [(0, .ref 85), (1, .int x1), (2, .int x2), (3, .int x3), (4, .int x4), (5, .int (nI (lastE c))), (6, .int (nI (wE c))), (7, .int 1), (8, .int x8), (9, .int (nI (lastE c))), (10, .int (nI (wE c))), (11, .int 0)]) dX10_orders_306 (by decide) rfl ?_
      exact K
    · have K := Kf q270
      refine td_iload 9 dX10_orders_273 rfl ?_
      refine td_iload 5 dX10_orders_275 rfl ?_
      obtain ⟨Kt, Kf⟩ := K
      refine td_icmp_lt (tgt := 294) dX10_orders_277 (by decide) (fun q277 => ?_) (fun q277 => ?_)
      · have K := Kt q277
        refine td_iconst (v := 1) dX10_orders_294 (by decide) ?_
        refine td_istore (lv2 := [(0, .ref 85), (1, .int x1), (2, .int x2), (3, .int x3), (4, .int x4), (5, .int x5), (6, .int x6), (7, .int 1), (8, .int x8), (9, .int (nI (lastE c))), (10, .int (nI (wE c)))]) dX10_orders_295 (by decide) rfl ?_
        refine td_iload 9 dX10_orders_297 rfl ?_
        refine td_istore (lv2 := [(0, .ref 85), (1, .int x1), (2, .int x2), (3, .int x3), (4, .int x4), (5, .int (nI (lastE c))), (6, .int x6), (7, .int 1), (8, .int x8), (9, .int (nI (lastE c))), (10, .int (nI (wE c)))]) dX10_orders_299 (by decide) rfl ?_
        refine td_iload 10 dX10_orders_301 rfl ?_
        refine td_istore (lv2 := [(0, .ref 85), (1, .int x1), (2, .int x2), (3, .int x3), (4, .int x4), (5, .int (nI (lastE c))), (6, .int (nI (wE c))), (7, .int 1), (8, .int x8), (9, .int (nI (lastE c))), (10, .int (nI (wE c)))]) dX10_orders_303 (by decide) rfl ?_
        refine td_iconst (v := 0) dX10_orders_305 (by decide) ?_
        refine td_istore (lv2 := [(0, .ref 85), (1, .int x1), (2, .int x2), (3, .int x3), (4, .int x4), (5, .int (nI (lastE c))), (6, .int (nI (wE c))), (7, .int 1), (8, .int x8), (9, .int (nI (lastE c))), (10, .int (nI (wE c))), (11, .int 0)]) dX10_orders_306 (by decide) rfl ?_
        exact K
      · have K := Kf q277
        refine td_iload 9 dX10_orders_280 rfl ?_
        refine td_iload 5 dX10_orders_282 rfl ?_
        obtain ⟨Kt, Kf⟩ := K
        refine td_icmp_ne (tgt := 334) dX10_orders_284 (by decide) (fun q284 => ?_) (fun q284 => ?_)
        · have K := Kt q284
          refine td_aload_n 0 dX10_orders_334 rfl ?_
          refine td_iload_n 3 dX10_orders_335 rfl ?_
          obtain ⟨e336_0, K⟩ := K
          obtain ⟨e336_1, K⟩ := K
          obtain ⟨e336_2, K⟩ := K
          obtain ⟨e336_3, K⟩ := K
          refine cl_X10_247 rfl kp_85 dX10_orders_336 (Nat.le_of_ble_eq_true rfl) (c_nextRow kn r x3 e336_0 e336_1 e336_2 e336_3) ?_
          rintro _ h336 ⟨rfl, f336⟩
          have K := K h336 f336
          refine td_eqs (st2 := [.int (b2i (flF r (kn - 1) ≠ 0))]) rfl ?_
          refine td_istore (lv2 := [(0, .ref 85), (1, .int x1), (2, .int x2), (3, .int x3), (4, .int x4), (5, .int x5), (6, .int x6), (7, .int x7), (8, .int (b2i (flF r (kn - 1) ≠ 0))), (9, .int (nI (lastE c))), (10, .int (nI (wE c)))]) dX10_orders_339 (by decide) rfl ?_
          refine td_goto (tgt := 213) dX10_orders_341 (by decide) ?_
          refine td_drop (lv2 := [(0, .ref 85), (1, .int x1), (2, .int x2), (3, .int x3), (4, .int x4), (5, .int x5), (6, .int x6), (7, .int x7), (8, .int (b2i (flF r (kn - 1) ≠ 0)))]) [0, 1, 2, 3, 4, 5, 6, 7, 8] rfl ?_
          exact K
        · have K := Kf q284
          refine td_iload 10 dX10_orders_287 rfl ?_
          refine td_iload 6 dX10_orders_289 rfl ?_
          obtain ⟨Kt, Kf⟩ := K
          refine td_icmp_ge (tgt := 334) dX10_orders_291 (by decide) (fun q291 => ?_) (fun q291 => ?_)
          · have K := Kt q291
            refine td_aload_n 0 dX10_orders_334 rfl ?_
            refine td_iload_n 3 dX10_orders_335 rfl ?_
            obtain ⟨e336_0, K⟩ := K
            obtain ⟨e336_1, K⟩ := K
            obtain ⟨e336_2, K⟩ := K
            obtain ⟨e336_3, K⟩ := K
            refine cl_X10_247 rfl kp_85 dX10_orders_336 (Nat.le_of_ble_eq_true rfl) (c_nextRow kn r x3 e336_0 e336_1 e336_2 e336_3) ?_
            rintro _ h336 ⟨rfl, f336⟩
            have K := K h336 f336
            refine td_eqs (st2 := [.int (b2i (flF r (kn - 1) ≠ 0))]) rfl ?_
            refine td_istore (lv2 := [(0, .ref 85), (1, .int x1), (2, .int x2), (3, .int x3), (4, .int x4), (5, .int x5), (6, .int x6), (7, .int x7), (8, .int (b2i (flF r (kn - 1) ≠ 0))), (9, .int (nI (lastE c))), (10, .int (nI (wE c)))]) dX10_orders_339 (by decide) rfl ?_
            refine td_goto (tgt := 213) dX10_orders_341 (by decide) ?_
            refine td_drop (lv2 := [(0, .ref 85), (1, .int x1), (2, .int x2), (3, .int x3), (4, .int x4), (5, .int x5), (6, .int x6), (7, .int x7), (8, .int (b2i (flF r (kn - 1) ≠ 0)))]) [0, 1, 2, 3, 4, 5, 6, 7, 8] rfl ?_
            exact K
          · have K := Kf q291
            refine td_iconst (v := 1) dX10_orders_294 (by decide) ?_
            refine td_istore (lv2 := [(0, .ref 85), (1, .int x1), (2, .int x2), (3, .int x3), (4, .int x4), (5, .int x5), (6, .int x6), (7, .int 1), (8, .int x8), (9, .int (nI (lastE c))), (10, .int (nI (wE c)))]) dX10_orders_295 (by decide) rfl ?_
            refine td_iload 9 dX10_orders_297 rfl ?_
            refine td_istore (lv2 := [(0, .ref 85), (1, .int x1), (2, .int x2), (3, .int x3), (4, .int x4), (5, .int (nI (lastE c))), (6, .int x6), (7, .int 1), (8, .int x8), (9, .int (nI (lastE c))), (10, .int (nI (wE c)))]) dX10_orders_299 (by decide) rfl ?_
            refine td_iload 10 dX10_orders_301 rfl ?_
            refine td_istore (lv2 := [(0, .ref 85), (1, .int x1), (2, .int x2), (3, .int x3), (4, .int x4), (5, .int (nI (lastE c))), (6, .int (nI (wE c))), (7, .int 1), (8, .int x8), (9, .int (nI (lastE c))), (10, .int (nI (wE c)))]) dX10_orders_303 (by decide) rfl ?_
            refine td_iconst (v := 0) dX10_orders_305 (by decide) ?_
            refine td_istore (lv2 := [(0, .ref 85), (1, .int x1), (2, .int x2), (3, .int x3), (4, .int x4), (5, .int (nI (lastE c))), (6, .int (nI (wE c))), (7, .int 1), (8, .int x8), (9, .int (nI (lastE c))), (10, .int (nI (wE c))), (11, .int 0)]) dX10_orders_306 (by decide) rfl ?_
            exact K
  · have K := Kf q224
    refine td_aload_n 0 dX10_orders_227 rfl ?_
    refine gf_X10_16 rfl kp_85 dX10_orders_228 ?_
    refine td_aload_n 0 dX10_orders_231 rfl ?_
    refine gf_X10_55 rfl kp_85 dX10_orders_232 ?_
    refine td_iload 9 dX10_orders_235 rfl ?_
    obtain ⟨e237, K⟩ := K
    refine td_ialdc (j := (ix x9)) kp_101 (by decide) e237 rfl dX10_orders_237 ?_
    refine td_aload_n 0 dX10_orders_238 rfl ?_
    refine gf_X10_52 rfl kp_85 dX10_orders_239 ?_
    refine td_iload 9 dX10_orders_242 rfl ?_
    refine td_ialdc (j := (ix x9)) kp_100 (by decide) e237 rfl dX10_orders_244 ?_
    obtain ⟨e245, K⟩ := K
    refine td_iastc (j := (ix (h 101 (ix x9)))) kp_88 (by decide) e245 rfl dX10_orders_245 ?_
    refine td_iinc 9 (v := x9 + 1) (lv2 := [(0, .ref 85), (1, .int x1), (2, .int x2), (3, .int x3), (4, .int x4), (5, .int x5), (6, .int x6), (7, .int x7), (8, .int x8), (9, .int (x9 + 1))]) dX10_orders_246 rfl (congrArg (x9 + ·) (by decide)) (by decide) rfl ?_
    refine td_goto (tgt := 221) dX10_orders_249 (by decide) ?_
    exact K
set_option maxRecDepth 20000 in
set_option maxHeartbeats 4000000 in
theorem gX10_orders_308 {G : td_G} {d : Nat} {Post : td_P} {kn : Nat} {r : Nat → Nat} {x1 x2 x3 x4 x5 x6 x7 x8 x9 x10 x11 : Int32} {h : td_H} (K : (x3 ≤ x11 → (x3 = nI kn ∧ 1 ≤ kn ∧ kn ≤ 6 ∧ (∀ a, a < kn → h 101 a = nI (r a) ∧ r a < 12) ∧ (∀ h336 : td_H, ((∀ a b, a ≠ 101 → h336 a b = h a b) ∧ (flF r (kn - 1) ≠ 0 → ∀ a, a < kn → h336 101 a = nI (nxF kn r a))) → (td_J G (d + 7) mX10_orders Post 213 [(0, .ref 85), (1, .int x1), (2, .int x2), (3, .int x3), (4, .int x4), (5, .int x5), (6, .int x6), (7, .int x7), (8, .int (b2i (flF r (kn - 1) ≠ 0)))] [] h336)))) ∧ (¬ x3 ≤ x11 → (vp_in x11 6 ∧ (td_J G (d + 7) mX10_orders Post 308 [(0, .ref 85), (1, .int x1), (2, .int x2), (3, .int x3), (4, .int x4), (5, .int x5), (6, .int x6), (7, .int x7), (8, .int x8), (9, .int x9), (10, .int x10), (11, .int (x11 + 1))] [] (hu h 102 (ix x11) (h 101 (ix x11))))))) : td_J G (d + 7) mX10_orders Post 308 [(0, .ref 85), (1, .int x1), (2, .int x2), (3, .int x3), (4, .int x4), (5, .int x5), (6, .int x6), (7, .int x7), (8, .int x8), (9, .int x9), (10, .int x10), (11, .int x11)] [] h := by
  refine td_iload 11 dX10_orders_308 rfl ?_
  refine td_iload_n 3 dX10_orders_310 rfl ?_
  obtain ⟨Kt, Kf⟩ := K
  refine td_icmp_ge (tgt := 334) dX10_orders_311 (by decide) (fun q311 => ?_) (fun q311 => ?_)
  · have K := Kt q311
    refine td_aload_n 0 dX10_orders_334 rfl ?_
    refine td_iload_n 3 dX10_orders_335 rfl ?_
    obtain ⟨e336_0, K⟩ := K
    obtain ⟨e336_1, K⟩ := K
    obtain ⟨e336_2, K⟩ := K
    obtain ⟨e336_3, K⟩ := K
    refine cl_X10_247 rfl kp_85 dX10_orders_336 (Nat.le_of_ble_eq_true rfl) (c_nextRow kn r x3 e336_0 e336_1 e336_2 e336_3) ?_
    rintro _ h336 ⟨rfl, f336⟩
    have K := K h336 f336
    refine td_eqs (st2 := [.int (b2i (flF r (kn - 1) ≠ 0))]) rfl ?_
    refine td_istore (lv2 := [(0, .ref 85), (1, .int x1), (2, .int x2), (3, .int x3), (4, .int x4), (5, .int x5), (6, .int x6), (7, .int x7), (8, .int (b2i (flF r (kn - 1) ≠ 0))), (9, .int x9), (10, .int x10), (11, .int x11)]) dX10_orders_339 (by decide) rfl ?_
    refine td_goto (tgt := 213) dX10_orders_341 (by decide) ?_
    refine td_drop (lv2 := [(0, .ref 85), (1, .int x1), (2, .int x2), (3, .int x3), (4, .int x4), (5, .int x5), (6, .int x6), (7, .int x7), (8, .int (b2i (flF r (kn - 1) ≠ 0)))]) [0, 1, 2, 3, 4, 5, 6, 7, 8] rfl ?_
    exact K
  · have K := Kf q311
    refine td_aload_n 0 dX10_orders_314 rfl ?_
    refine gf_X10_58 rfl kp_85 dX10_orders_315 ?_
    refine td_iload 11 dX10_orders_318 rfl ?_
    refine td_aload_n 0 dX10_orders_320 rfl ?_
    refine gf_X10_55 rfl kp_85 dX10_orders_321 ?_
    refine td_iload 11 dX10_orders_324 rfl ?_
    obtain ⟨e326, K⟩ := K
    refine td_ialdc (j := (ix x11)) kp_101 (by decide) e326 rfl dX10_orders_326 ?_
    refine td_iastc (j := (ix x11)) kp_102 (by decide) e326 rfl dX10_orders_327 ?_
    refine td_iinc 11 (v := x11 + 1) (lv2 := [(0, .ref 85), (1, .int x1), (2, .int x2), (3, .int x3), (4, .int x4), (5, .int x5), (6, .int x6), (7, .int x7), (8, .int x8), (9, .int x9), (10, .int x10), (11, .int (x11 + 1))]) dX10_orders_328 rfl (congrArg (x11 + ·) (by decide)) (by decide) rfl ?_
    refine td_goto (tgt := 308) dX10_orders_331 (by decide) ?_
    exact K
theorem in64d {x : Int32} {n : Nat} (hn : n < 2 ^ 30) : ((-2 : Int64) ≤ x.toInt64 ∧ x.toInt64 ≤ (nI n - 1).toInt64) ↔ (¬ x < -2 ∧ x < nI n) := by
  have e : (nI n - 1).toInt = (n : Int) - 1 := pk_sub_toInt (a := n) (b := 1) hn (by decide)
  rw [fa_le64, fa_le64, Int32.toInt_toInt64, Int32.toInt_toInt64, e, fa_lt, fa_lt, nI_toInt (by omega), show (-2 : Int64).toInt = -2 by decide, show (-2 : Int32).toInt = -2 by decide]
  omega
theorem of_0 {p : Nat} (hp : p < 12) : ix ((10 + (3 * nI p)) + 0) = 10 + 3 * p := of_ix (p := p) hp (w := 0) (by decide)
theorem of_i0 {p : Nat} (hp : p < 12) : vp_in ((10 + (3 * nI p)) + 0) 46 := of_in (p := p) hp (w := 0) (by decide)
/-- what the sorting has made: rows who, ticks, row -/
def srM (g : nH) (v k : Nat) (h : td_H) : Prop := (∀ a, a < popc v → h 99 a = nI (wh v a)) ∧ (∀ a, a < k → h 100 a = nI (tkF g v k a)) ∧ ∀ a, a < k → h 101 a = nI (wh v a)
def FrW (h h' : td_H) : Prop := ∀ a b, ¬ (99 ≤ a ∧ a ≤ 102) → h' a b = h a b
theorem FrW.C {c : nH} {h h1 : td_H} (x : FrW h h1) (hc : rmC c h) : rmC c h1 := by
  obtain ⟨w, a1, a2, a3, a4⟩ := hc
  refine ⟨w, fun i hi => ?_, ?_, fun p hp => ?_, ?_⟩
  · rw [x 87 i (by omega)]; exact a1 i hi
  · rw [x 86 9 (by omega)]; exact a2
  · rw [x 86 _ (by omega), x 86 _ (by omega), x 88 p (by omega)]
    exact a3 p hp
  · rw [x 85 2 (by omega)]; exact a4
theorem FrW.N {h h' : td_H} (x : FrW h h') : FrN h h' := fun a b n => x a b (fun z => n (by unfold qR; omega))
theorem m_sort {G : td_G} {d : Nat} {Post : td_P} {g : nH} {v : Nat} {x2 x4 : Int32} {h2 : td_H} (hwf : wfC g) (hv : ordV g v) (hZ : mZ g 86 h2) (h99 : ∀ a, a < popc v → h2 99 a = nI (wh v a)) (kk : ∀ h3, FrW h2 h3 → srM g v (popc v) h3 → td_J G (d + 7) mX10_orders Post 101 [(0, .ref 85), (1, .int (nI v)), (2, .int x2), (3, .int (nI (popc v))), (4, .int x4), (5, .int (nI (popc v)))] [] h3) : td_J G (d + 7) mX10_orders Post 101 [(0, .ref 85), (1, .int (nI v)), (2, .int x2), (3, .int (nI (popc v))), (4, .int x4), (5, .int 0)] [] h2 := by
  obtain ⟨v1, v6, vn⟩ := hv
  have hn := hwf.n
  refine td_forH (popc v) (fun k => [(0, .ref 85), (1, .int (nI v)), (2, .int x2), (3, .int (nI (popc v))), (4, .int x4), (5, .int (nI k))]) (fun k h3 => FrW h2 h3 ∧ srM g v k h3) rfl ⟨fun _ _ _ => rfl, h99, fun a ha => absurd ha (by omega), fun a ha => absurd ha (by omega)⟩ (fun k hk h3 hI ih => ?_) (fun h3 hI => kk h3 hI.1 hI.2)
  obtain ⟨hF, s1, s2, s3⟩ := hI
  refine gX10_orders_101 ⟨fun y => absurd (le_of y) (by omega), fun _ => ?_⟩
  have wk := wh_n vn hk
  have w4 := (hwf.p wk).2.2
  have tl : ∀ i, tkF g v k i < 120 := tkF_lt vn (fun p hp => (hwf.p hp).2.2) k (by omega)
  -- what the one who is put in brings
  have e0 : ∀ H : td_H, FrW h2 H → (∀ a, a < popc v → H 99 a = nI (wh v a)) → H 99 (ix (nI k)) = nI (wh v k) ∧ vp_in ((10 + (3 * nI (wh v k))) + 0) 46 ∧ H 86 (ix ((10 + (3 * nI (wh v k))) + 0)) = nI (g 4 (wh v k)) := fun H FH hw => by
    have wk12 : wh v k < 12 := by omega
    refine ⟨by rw [ixn (i := k) (by omega)]; exact hw k hk, of_i0 wk12, ?_⟩
    rw [of_0 wk12, FH 86 _ (by omega)]
    exact (hZ.2.2 (wh v k) wk).1
  have fin : ∀ u, u ≤ k → ∀ H : td_H, inP' (tkF g v k) (g 4 (wh v k)) k = u → FrW h2 H → (∀ a, a < popc v → H 99 a = nI (wh v a)) → (∀ a, a < k → H 101 a = nI (wh v a)) → (∀ i, i < u → H 100 i = nI (tkF g v k i)) → (∀ i, u ≤ i → i < k → H 100 (i + 1) = nI (tkF g v k i)) → td_J G (d + 7) mX10_orders Post 101 [(0, .ref 85), (1, .int (nI v)), (2, .int x2), (3, .int (nI (popc v))), (4, .int x4), (5, .int (nI k + 1))] [] (hu (hu H 100 u (nI (g 4 (wh v k)))) 101 k (nI (wh v k))) := by
    intro u hu' H hp FH hw hr l1 l2
    refine td_to (ih _ ⟨fun a b z => ?_, fun a ha => ?_, fun a ha => ?_, fun a ha => ?_⟩) (by rw [nI_1]) rfl rfl
    · rw [hu_app, if_neg (by omega), hu_app, if_neg (by omega)]; exact FH a b z
    · rw [hu_app, if_neg (by omega), hu_app, if_neg (by omega)]; exact hw a ha
    · rw [hu_app, if_neg (by omega), hu_app]
      show _ = nI (inS k (tkF g v k) (g 4 (wh v k)) a)
      unfold inS
      rw [hp]
      by_cases y1 : a < u
      · rw [if_neg (by omega), if_pos y1]; exact l1 a y1
      · rw [if_neg y1]
        by_cases y2 : a = u
        · rw [if_pos ⟨rfl, y2⟩, if_pos y2]
        · rw [if_neg (fun z => y2 z.2), if_neg y2]
          have z := l2 (a - 1) (by omega) (by omega)
          rw [show a - 1 + 1 = a by omega] at z
          exact z
    · rw [hu_app]
      by_cases y : a = k
      · rw [if_pos ⟨rfl, y⟩, y]
      · rw [if_neg (fun z => y z.2), hu_app, if_neg (by omega)]; exact hr a (by omega)
  have loop : ∀ u, u ≤ k → ∀ H : td_H, inP' (tkF g v k) (g 4 (wh v k)) u = inP' (tkF g v k) (g 4 (wh v k)) k → FrW h2 H → (∀ a, a < popc v → H 99 a = nI (wh v a)) → (∀ a, a < k → H 101 a = nI (wh v a)) → (∀ i, i < u → H 100 i = nI (tkF g v k i)) → (∀ i, u ≤ i → i < k → H 100 (i + 1) = nI (tkF g v k i)) → td_J G (d + 7) mX10_orders Post 111 [(0, .ref 85), (1, .int (nI v)), (2, .int x2), (3, .int (nI (popc v))), (4, .int x4), (5, .int (nI k)), (6, .int (nI u))] [] H := by
    intro u
    induction u with
    | zero =>
      intro hu' H hp FH hw hr l1 l2
      obtain ⟨q1, q2, q3⟩ := e0 H FH hw
      refine gX10_orders_111 ⟨fun _ => ⟨vp_in_nI (by omega) (by decide), ?_⟩, fun y => absurd (by decide) y⟩
      have q4 : (hu H 100 (ix (nI 0)) (nI (g 4 (wh v k)))) 99 (ix (nI k)) = nI (wh v k) := by rw [hu_app, if_neg (by omega)]; exact q1
      rw [q1, q3, q4, ixn (i := k) (by omega), show ix (nI 0) = 0 from ixn (by omega)]
      exact ⟨q2, by unfold vp_in; decide, fin 0 hu' H hp.symm FH hw hr l1 l2⟩
    | succ u ihu =>
      intro hu' H hp FH hw hr l1 l2
      obtain ⟨q1, q2, q3⟩ := e0 H FH hw
      have e1 : nI (u + 1) - 1 = nI u := pk_sub (a := u + 1) (b := 1) (by omega)
      have fu := tl u
      rw [show inP' (tkF g v k) (g 4 (wh v k)) (u + 1) = if tkF g v k u ≤ g 4 (wh v k) then u + 1 else inP' (tkF g v k) (g 4 (wh v k)) u from rfl] at hp
      refine gX10_orders_111 ⟨fun y => absurd (le_of (b := 0) y) (by omega), fun _ => ?_⟩
      have q4 : (hu H 100 (ix (nI (u + 1))) (nI (g 4 (wh v k)))) 99 (ix (nI k)) = nI (wh v k) := by rw [hu_app, if_neg (by omega)]; exact q1
      rw [q1, q3, q4, e1, ixn (i := k) (by omega), ixn (i := u) (by omega), ixn (i := u + 1) (by omega), l1 u (by omega)]
      refine ⟨vp_in_nI (by omega) (by decide), vp_in_nI (by omega) (by decide), q2, fun y => ?_, fun y => ?_⟩
      · have y2 := le_of y
        rw [if_pos y2] at hp
        exact ⟨vp_in_nI (by omega) (by decide), fin (u + 1) hu' H hp.symm FH hw hr l1 l2⟩
      · have y2 := nle_of y
        rw [if_neg (by omega)] at hp
        refine ⟨vp_in_nI (by omega) (by decide), td_to (ihu (by omega) (hu H 100 (u + 1) (nI (tkF g v k u))) hp (fun a b z => ?_) (fun a ha => ?_) (fun a ha => ?_) (fun i hi => ?_) (fun i h3 h4 => ?_)) ?_ rfl rfl⟩
        · rw [hu_app, if_neg (by omega)]; exact FH a b z
        · rw [hu_app, if_neg (by omega)]; exact hw a ha
        · rw [hu_app, if_neg (by omega)]; exact hr a ha
        · rw [hu_app, if_neg (by omega)]; exact l1 i (by omega)
        · rw [hu_app]
          by_cases z : i = u
          · rw [if_pos ⟨rfl, by omega⟩, z]
          · rw [if_neg (by omega)]; exact l2 i (by omega) h4
        · rw [show nI (u + 1) + -1 = nI u from (Int32.sub_eq_add_neg _ _).symm.trans e1]
  exact loop k (Nat.le_refl k) h3 rfl hF s1 s3 s2 (fun i h3 h4 => absurd h4 (by omega))
/-- how the search stands before the i-th row -/
def ptM (g : nH) (v i : Nat) (x5 x6 x7 : Int32) (h : td_H) : Prop := (i = 0 ∧ x5 = 0 ∧ x6 = 0 ∧ x7 = 0) ∨ (0 < i ∧ x5 = nI (lO g v (bO g v (i - 1))) ∧ x6 = nI (wO g v (bO g v (i - 1))) ∧ x7 = 1 ∧ ∀ a, a < popc v → h 102 a = nI (wh v (prm (popc v) (bO g v (i - 1)) a)))
theorem m_deal {G : td_G} {d : Nat} {Post : td_P} {g c' : nH} {v i : Nat} {x2 x4 x5 x6 x7 x8 : Int32} {h : td_H} (hwf : wfC g) (hv : ordV g v) (hi : i < fct (popc v)) (r70 : ∀ a, a < popc v → h 101 a = nI (wh v (prm (popc v) i a))) (r72 : ∀ a, a < popc v → h 100 a = nI (tkF g v (popc v) a)) (hC : rmC c' h) (hc : ∀ a b, ¬ (a = 4 ∧ bits v b = true) → c' a b = g a b) (kk : ∀ h1, (∀ a b, a ≠ 88 → h1 a b = h a b) → rmC (cfgO g v i) h1 → td_J G (d + 7) mX10_orders Post 221 [(0, .ref 85), (1, .int (nI v)), (2, .int x2), (3, .int (nI (popc v))), (4, .int x4), (5, .int x5), (6, .int x6), (7, .int x7), (8, .int x8), (9, .int (nI (popc v)))] [] h1) : td_J G (d + 7) mX10_orders Post 221 [(0, .ref 85), (1, .int (nI v)), (2, .int x2), (3, .int (nI (popc v))), (4, .int x4), (5, .int x5), (6, .int x6), (7, .int x7), (8, .int x8), (9, .int 0)] [] h := by
  obtain ⟨v1, v6, vn⟩ := hv
  have pf := prm_facts v1 v6 hi
  have hn := hwf.n
  refine td_forH (popc v) (fun m => [(0, .ref 85), (1, .int (nI v)), (2, .int x2), (3, .int (nI (popc v))), (4, .int x4), (5, .int x5), (6, .int x6), (7, .int x7), (8, .int x8), (9, .int (nI m))]) (fun m h1 => (∀ a b, a ≠ 88 → h1 a b = h a b) ∧ (∀ a, a < m → h1 88 (wh v (prm (popc v) i a)) = nI (tkF g v (popc v) a)) ∧ ∀ p, (∀ a, a < m → p ≠ wh v (prm (popc v) i a)) → h1 88 p = h 88 p) rfl ⟨fun _ _ _ => rfl, fun a ha => absurd ha (by omega), fun _ _ => rfl⟩ (fun m hm h1 hI ih => ?_) (fun h1 hI => ?_)
  · obtain ⟨hF, hA, hB⟩ := hI
    have p1 := pf.2.1 m hm
    have w1 := (wh_in (v := v) p1).1
    refine gX10_orders_221 (c := g) (kn := 0) (r := fun _ => 0) ?_
    rw [ixn (i := m) (by omega), hF 101 m (by omega), hF 100 m (by omega), r70 m hm, r72 m hm, ixn (i := wh v (prm (popc v) i m)) (by omega)]
    refine ⟨fun y => absurd (le_of y) (by omega), fun _ => ⟨vp_in_nI (by omega) (by decide), vp_in_nI w1 (by decide), ?_⟩⟩
    refine td_to (ih _ ⟨fun a b n => ?_, fun a ha => ?_, fun p hp => ?_⟩) (by rw [nI_1]) rfl rfl
    · rw [hu_app, if_neg (fun z => n z.1)]; exact hF a b n
    · rw [hu_app]
      by_cases z : a = m
      · rw [if_pos ⟨rfl, by rw [z]⟩, z]
      · rw [if_neg (fun w => z ?_)]
        · exact hA a (by omega)
        · have e : wh v (prm (popc v) i a) = wh v (prm (popc v) i m) := w.2
          have pa := pf.2.1 a (by omega)
          have e2 : prm (popc v) i a = prm (popc v) i m := by
            have a1 := (wh_in (v := v) pa).2.2
            have a2 := (wh_in (v := v) p1).2.2
            rw [e, a2] at a1
            exact a1.symm
          exact pf.2.2.2.1 m a hm (by omega) e2
    · rw [hu_app, if_neg (fun z => hp m (by omega) z.2)]
      exact hB p (fun a ha => hp a (by omega))
  · obtain ⟨hF, hA, hB⟩ := hI
    refine kk h1 hF ⟨cfgO_wf hwf vn i, fun j hj => ?_, ?_, fun p hp => ?_, ?_⟩
    · rw [hF _ _ (by omega), cfgO_o g v i 0 j (by decide), ← hc 0 j (by omega)]; exact hC.2.1 j hj
    · rw [hF _ _ (by omega), cfgO_o g v i 1 0 (by decide), ← hc 1 0 (by omega)]; exact hC.2.2.1
    · rw [cfgO_o g v i 1 0 (by decide)] at hp
      have hp' : p < c' 1 0 := by rw [hc 1 0 (by omega)]; exact hp
      rw [hF 86 _ (by omega), hF 86 _ (by omega), cfgO_o g v i 2 p (by decide), cfgO_o g v i 3 p (by decide), ← hc 2 p (by omega), ← hc 3 p (by omega)]
      refine ⟨(hC.2.2.2.1 p hp').1, (hC.2.2.2.1 p hp').2.1, ?_⟩
      by_cases z : bits v p = true
      · have hx : fb_ct (bits v) p < popc v := by
          have := fb_ct_mono (bits v) (show p + 1 ≤ 12 by omega)
          rw [fb_ct_succ, if_pos z] at this
          show fb_ct (bits v) p < fb_ct (bits v) 12
          omega
        obtain ⟨a, ha, ea⟩ := prm_onto v1 v6 hi hx
        have ew : wh v (prm (popc v) i a) = p := by rw [ea]; exact wh_of (by omega) z
        have y := hA a ha
        have y2 := cfgO_4 g v1 v6 hi ha
        rw [ew] at y y2
        rw [y, y2]
      · rw [hB p (fun a ha e => z (by rw [e]; exact (wh_in (v := v) (pf.2.1 a ha)).2.1)), cfgO_4n g v i p z, ← hc 4 p (fun w => z w.2)]
        exact (hC.2.2.2.1 p hp').2.2
    · rw [hF 85 2 (by omega), cfgO_o g v i 5 0 (by decide), ← hc 5 0 (by omega)]; exact hC.2.2.2.2
theorem m_search {G : td_G} {d : Nat} {h : td_H} {s : gS} {v : Nat} {x2 x4 : Int32} (O : OK s) (I : MI s h) (hv : ordV s.1 v) (o3 : ¬ x2 < -2 ∧ x2 < nI (popc v)) : ∀ u i (h1 : td_H) (x5 x6 x7 : Int32), i + u + 1 = fct (popc v) → FrN h h1 → (∀ a, a < popc v → h1 101 a = nI (wh v (prm (popc v) i a))) → (∀ a, a < popc v → h1 100 a = nI (tkF s.1 v (popc v) a)) → ptM s.1 v i x5 x6 x7 h1 → (∃ c', rmC c' h1 ∧ ∀ a b, ¬ (a = 4 ∧ bits v b = true) → c' a b = s.1 a b) → td_J G (d + 7) mX10_orders (mPost (aOrd s.1 v x2) s h) 213 [(0, .ref 85), (1, .int (nI v)), (2, .int x2), (3, .int (nI (popc v))), (4, .int x4), (5, .int x5), (6, .int x6), (7, .int x7), (8, .int 1)] [] h1 := by
  have hn := O.1.n
  have hv0 := hv
  obtain ⟨v1, v6, vn⟩ := hv
  generalize hg : s.1 = g at *
  have h5 : 12 ≤ g 5 0 := by rw [← hg]; exact O.2.1
  have hwf : wfC g := by rw [← hg]; exact O.1
  have hnO : ∀ j, lO g v j ≤ 120 ∧ wO g v j ≤ 1440 := fun j => ⟨lastE_le (by rw [cfgO_o g v j 1 0 (by decide)]; exact hn), wE_le (by rw [cfgO_o g v j 1 0 (by decide)]; exact hn)⟩
  have body : ∀ i, i < fct (popc v) → (i + 1 < fct (popc v) → ∀ (h2 : td_H) (x5 x6 x7 : Int32), FrN h h2 → (∀ a, a < popc v → h2 101 a = nI (wh v (prm (popc v) (i + 1) a))) → (∀ a, a < popc v → h2 100 a = nI (tkF g v (popc v) a)) → ptM g v (i + 1) x5 x6 x7 h2 → (∃ c', rmC c' h2 ∧ ∀ a b, ¬ (a = 4 ∧ bits v b = true) → c' a b = g a b) → td_J G (d + 7) mX10_orders (mPost (aOrd g v x2) s h) 213 [(0, .ref 85), (1, .int (nI v)), (2, .int x2), (3, .int (nI (popc v))), (4, .int x4), (5, .int x5), (6, .int x6), (7, .int x7), (8, .int 1)] [] h2) → ∀ (h1 : td_H) (x5 x6 x7 : Int32), FrN h h1 → (∀ a, a < popc v → h1 101 a = nI (wh v (prm (popc v) i a))) → (∀ a, a < popc v → h1 100 a = nI (tkF g v (popc v) a)) → ptM g v i x5 x6 x7 h1 → (∃ c', rmC c' h1 ∧ ∀ a b, ¬ (a = 4 ∧ bits v b = true) → c' a b = g a b) → td_J G (d + 7) mX10_orders (mPost (aOrd g v x2) s h) 213 [(0, .ref 85), (1, .int (nI v)), (2, .int x2), (3, .int (nI (popc v))), (4, .int x4), (5, .int x5), (6, .int x6), (7, .int x7), (8, .int 1)] [] h1 := by
    intro i hi cont h1 x5 x6 x7 hF hR hT hPt hc2
    obtain ⟨c2, hC2, hc2⟩ := hc2
    have pf := prm_facts v1 v6 hi
    have hm : ∀ a b, a < popc v → b < popc v → (wh v (prm (popc v) i a) < wh v (prm (popc v) i b) ↔ prm (popc v) i a < prm (popc v) i b) := fun a b ha hb => wh_lt (pf.2.1 a ha) (pf.2.1 b hb)
    have rr : ∀ H : td_H, (∀ a, a < popc v → H 101 a = nI (wh v (prm (popc v) i a))) → ∀ a, a < popc v → H 101 a = nI ((fun a => wh v (prm (popc v) i a)) a) ∧ (fun a => wh v (prm (popc v) i a)) a < 12 := fun H hH a ha => ⟨hH a ha, (wh_in (pf.2.1 a ha)).1⟩
    have x2' : flF (fun a => wh v (prm (popc v) i a)) (popc v - 1) = flF (prm (popc v) i) (popc v - 1) := flF_w (w := wh v) hm _ (by omega)
    have x3' : ∀ a, nxF (popc v) (fun a => wh v (prm (popc v) i a)) a = wh v (nxF (popc v) (prm (popc v) i) a) := fun a => nxF_w v1 (w := wh v) hm a
    -- behind the weighing
    have tail : ∀ (h2 : td_H) (y5 y6 y7 : Int32), FrN h h2 → (∀ a, a < popc v → h2 101 a = nI (wh v (prm (popc v) i a))) → (∀ a, a < popc v → h2 100 a = nI (tkF g v (popc v) a)) → ptM g v (i + 1) y5 y6 y7 h2 → (∃ c', rmC c' h2 ∧ ∀ a b, ¬ (a = 4 ∧ bits v b = true) → c' a b = g a b) → (∀ h336 : td_H, ((∀ a b, a ≠ 101 → h336 a b = h2 a b) ∧ (flF (fun a => wh v (prm (popc v) i a)) (popc v - 1) ≠ 0 → ∀ a, a < popc v → h336 101 a = nI (nxF (popc v) (fun a => wh v (prm (popc v) i a)) a))) → td_J G (d + 7) mX10_orders (mPost (aOrd g v x2) s h) 213 [(0, .ref 85), (1, .int (nI v)), (2, .int x2), (3, .int (nI (popc v))), (4, .int x4), (5, .int y5), (6, .int y6), (7, .int y7), (8, .int (b2i (flF (fun a => wh v (prm (popc v) i a)) (popc v - 1) ≠ 0)))] [] h336) := by
      intro h2 y5 y6 y7 F2 R2 T2 P2 C2 h3 hh
      have F3 : FrN h h3 := fun a b z => by rw [hh.1 a b (fun w => z (by unfold qR; omega))]; exact F2 a b z
      have P3 : ptM g v (i + 1) y5 y6 y7 h3 := by
        rcases P2 with z | ⟨z0, z1, z2, z3, z4⟩
        · exact Or.inl z
        · exact Or.inr ⟨z0, z1, z2, z3, fun a ha => by rw [hh.1 _ _ (by decide)]; exact z4 a ha⟩
      by_cases y : flF (fun a => wh v (prm (popc v) i a)) (popc v - 1) ≠ 0
      · rw [b2i_t y]
        have y3 : flF (prm (popc v) i) (popc v - 1) ≠ 0 := by rw [← x2']; exact y
        have ne : i + 1 ≠ fct (popc v) := fun z => y3 (pf.1.mpr z)
        refine cont (by omega) h3 y5 y6 y7 F3 (fun a ha => ?_) (fun a ha => by rw [hh.1 _ _ (by decide)]; exact T2 a ha) P3 ?_
        · rw [hh.2 y a ha, x3' a, pf.2.2.1 ne a ha]
        · obtain ⟨c3, C3, e3⟩ := C2
          exact ⟨c3, FrW.C (fun a b z => hh.1 a b (by omega)) C3, e3⟩
      · rw [b2i_f y]
        have y2 : flF (fun a => wh v (prm (popc v) i a)) (popc v - 1) = 0 := Decidable.byContradiction y
        have e := pf.1.mp (by rw [← x2']; exact y2)
        refine gX10_orders_213 ⟨fun _ => ?_, fun z => absurd rfl z⟩
        rcases P3 with z | ⟨z0, z1, z2, z3, z4⟩
        · omega
        · rw [e] at z1 z2 z4
          unfold aOrd
          have idx : ¬ x2 = -1 → ¬ x2 = -2 → ix x2 < popc v ∧ vp_in x2 6 := fun q1 q2 => by
            have hx := m2_ge o3.1 q1 q2
            obtain ⟨e, hb⟩ := nn_of hx
            have lt := o3.2
            rw [e] at lt
            have lt := lt_of lt
            exact ⟨lt, by rw [e]; exact vp_in_nI (by omega) (by decide)⟩
          refine ⟨fun q1 q2 => ⟨(idx q1 q2).2, trivial⟩, ?_, ?_⟩
          · rw [z1, z2]
            by_cases q1 : x2 = -1
            · rw [if_pos q1, if_pos q1]
            · rw [if_neg q1, if_neg q1]
              by_cases q2 : x2 = -2
              · rw [if_pos q2, if_pos q2]
              · rw [if_neg q2, if_neg q2, z4 _ (idx q1 q2).1]
          · exact I.q F3
    refine gX10_orders_213 ⟨fun y => absurd y (by decide), fun _ => ?_⟩
    refine m_deal hwf hv0 hi hR hT hC2 hc2 (fun h2 F2 C2 => ?_)
    have g5 : 12 ≤ cfgO g v i 5 0 := by rw [cfgO_o g v i 5 0 (by decide)]; exact h5
    refine gX10_orders_221 (c := cfgO g v i) (kn := popc v) (r := fun a => wh v (prm (popc v) i a)) ⟨fun _ => ⟨C2, fun h3 h33 => ⟨g5, h33.1.C C2, h33.2, ?_⟩⟩, fun y => absurd (nle_of y) (by omega)⟩
    have e3 : ∀ a b, (99 ≤ a ∧ a ≤ 102) → h3 a b = h1 a b := fun a b z => by rw [h33.1 a b (fun w => by unfold simP at w; omega), F2 a b (by omega)]
    have F3 : FrN h h3 := hF.tr (fun a b z => by rw [h33.1 a b (fun w => z (by unfold simP at w; unfold qR; omega)), F2 a b (fun w => z (by unfold qR; omega))])
    have R3 : ∀ a, a < popc v → h3 101 a = nI (wh v (prm (popc v) i a)) := fun a ha => by rw [e3 _ _ (by omega)]; exact hR a ha
    have T3 : ∀ a, a < popc v → h3 100 a = nI (tkF g v (popc v) a) := fun a ha => by rw [e3 _ _ (by omega)]; exact hT a ha
    have C3 : ∃ c', rmC c' h3 ∧ ∀ a b, ¬ (a = 4 ∧ bits v b = true) → c' a b = g a b := ⟨cfgO g v i, h33.1.C C2, fun a b z => by
      by_cases y : a = 4
      · rw [y]; exact cfgO_4n g v i b (fun w => z ⟨y, w⟩)
      · exact cfgO_o g v i a b y⟩
    have hl := hnO i
    change lastE (cfgO g v i) ≤ 120 ∧ wE (cfgO g v i) ≤ 1440 at hl
    -- it is taken
    have take : bO g v i = i → td_J G (d + 7) mX10_orders (mPost (aOrd g v x2) s h) 308 [(0, .ref 85), (1, .int (nI v)), (2, .int x2), (3, .int (nI (popc v))), (4, .int x4), (5, .int (nI (lastE (cfgO g v i)))), (6, .int (nI (wE (cfgO g v i)))), (7, .int 1), (8, .int 1), (9, .int (nI (lastE (cfgO g v i)))), (10, .int (nI (wE (cfgO g v i)))), (11, .int 0)] [] h3 := by
      intro eb
      refine td_forH (popc v) (fun k => [(0, .ref 85), (1, .int (nI v)), (2, .int x2), (3, .int (nI (popc v))), (4, .int x4), (5, .int (nI (lastE (cfgO g v i)))), (6, .int (nI (wE (cfgO g v i)))), (7, .int 1), (8, .int 1), (9, .int (nI (lastE (cfgO g v i)))), (10, .int (nI (wE (cfgO g v i)))), (11, .int (nI k))]) (fun k h4 => (∀ a b, a ≠ 102 → h4 a b = h3 a b) ∧ ∀ a, a < k → h4 102 a = nI (wh v (prm (popc v) i a))) rfl ⟨fun _ _ _ => rfl, fun a ha => absurd ha (by omega)⟩ (fun k hk h4 hI ih => ?_) (fun h4 hI => ?_)
      · obtain ⟨F4, V4⟩ := hI
        refine gX10_orders_308 (kn := popc v) (r := fun a => wh v (prm (popc v) i a)) ?_
        rw [ixn (i := k) (by omega), F4 101 k (by decide), R3 k hk]
        refine ⟨fun y => absurd (le_of y) (by omega), fun _ => ⟨vp_in_nI (by omega) (by decide), td_to (ih _ ⟨fun a b z => ?_, fun a ha => ?_⟩) (by rw [nI_1]) rfl rfl⟩⟩
        · rw [hu_app, if_neg (fun w => z w.1)]; exact F4 a b z
        · rw [hu_app]
          by_cases e : a = k
          · rw [if_pos ⟨rfl, e⟩, e]
          · rw [if_neg (fun w => e w.2)]; exact V4 a (by omega)
      · obtain ⟨F4, V4⟩ := hI
        have R4 : ∀ a, a < popc v → h4 101 a = nI (wh v (prm (popc v) i a)) := fun a ha => by rw [F4 _ _ (by decide)]; exact R3 a ha
        refine gX10_orders_308 (kn := popc v) (r := fun a => wh v (prm (popc v) i a)) ⟨fun _ => ⟨rfl, v1, v6, rr h4 R4, tail h4 _ _ _ (fun a b z => by rw [F4 a b (fun w => z (by unfold qR; omega))]; exact F3 a b z) R4 (fun a ha => by rw [F4 _ _ (by decide)]; exact T3 a ha) (Or.inr ⟨by omega, ?_, ?_, rfl, fun a ha => ?_⟩) ?_⟩, fun y => absurd (nle_of y) (by omega)⟩
        · rw [show i + 1 - 1 = i from rfl, eb]; rfl
        · rw [show i + 1 - 1 = i from rfl, eb]; rfl
        · rw [show i + 1 - 1 = i from rfl, eb]; exact V4 a ha
        · obtain ⟨c3, K3, e3⟩ := C3
          exact ⟨c3, FrW.C (fun a b z => F4 a b (by omega)) K3, e3⟩
    -- it is not
    have keep : 0 < i → bO g v i = bO g v (i - 1) → (nI (popc v) = nI (popc v) ∧ 1 ≤ popc v ∧ popc v ≤ 6 ∧ (∀ a, a < popc v → h3 101 a = nI ((fun a => wh v (prm (popc v) i a)) a) ∧ (fun a => wh v (prm (popc v) i a)) a < 12) ∧ (∀ h336 : td_H, ((∀ a b, a ≠ 101 → h336 a b = h3 a b) ∧ (flF (fun a => wh v (prm (popc v) i a)) (popc v - 1) ≠ 0 → ∀ a, a < popc v → h336 101 a = nI (nxF (popc v) (fun a => wh v (prm (popc v) i a)) a))) → td_J G (d + 7) mX10_orders (mPost (aOrd g v x2) s h) 213 [(0, .ref 85), (1, .int (nI v)), (2, .int x2), (3, .int (nI (popc v))), (4, .int x4), (5, .int x5), (6, .int x6), (7, .int x7), (8, .int (b2i (flF (fun a => wh v (prm (popc v) i a)) (popc v - 1) ≠ 0)))] [] h336)) := by
      intro i0 eb
      refine ⟨rfl, v1, v6, rr h3 R3, tail h3 x5 x6 x7 F3 R3 T3 ?_ C3⟩
      rcases hPt with z | ⟨z0, z1, z2, z3, z4⟩
      · omega
      · exact Or.inr ⟨by omega, by rw [show i + 1 - 1 = i from rfl, eb]; exact z1, by rw [show i + 1 - 1 = i from rfl, eb]; exact z2, z3, fun a ha => by rw [show i + 1 - 1 = i from rfl, eb, e3 _ _ (by omega)]; exact z4 a ha⟩
    rcases hPt with ⟨z0, z1, z2, z3⟩ | ⟨z0, z1, z2, z3, z4⟩
    · subst z0
      exact ⟨fun _ => take rfl, fun y => absurd z3 y⟩
    · obtain ⟨m, rfl⟩ : ∃ m, i = m + 1 := ⟨i - 1, by omega⟩
      have hb := hnO (bO g v m)
      have hbe : bO g v (m + 1) = if lO g v (m + 1) < lO g v (bO g v m) ∨ (lO g v (m + 1) = lO g v (bO g v m) ∧ wO g v (m + 1) < wO g v (bO g v m)) then m + 1 else bO g v m := rfl
      rw [show m + 1 - 1 = m from rfl] at z1 z2
      subst z1 z2
      change lO g v (m + 1) ≤ 120 ∧ wO g v (m + 1) ≤ 1440 at hl
      refine ⟨fun y => absurd (z3.symm.trans y) (by decide), fun _ => ⟨fun y => take ?_, fun y => ⟨fun z => keep z0 ?_, fun z => ⟨fun w => keep z0 ?_, fun w => take ?_⟩⟩⟩⟩
      · have y2 : lO g v (m + 1) < lO g v (bO g v m) := lt_of (a := lO g v (m + 1)) y
        rw [hbe, if_pos (Or.inl y2)]
      · have y2 : lO g v (bO g v m) ≤ lO g v (m + 1) := nlt_of (a := lO g v (m + 1)) y
        have z2 : ¬ lO g v (m + 1) = lO g v (bO g v m) := fun q => z (congrArg nI q)
        rw [hbe, if_neg (by omega)]; rfl
      · have y2 : lO g v (bO g v m) ≤ lO g v (m + 1) := nlt_of (a := lO g v (m + 1)) y
        have w2 : wO g v (bO g v m) ≤ wO g v (m + 1) := le_of (b := wO g v (m + 1)) w
        rw [hbe, if_neg (by omega)]; rfl
      · have z2 : lO g v (m + 1) = lO g v (bO g v m) := eq_of (a := lO g v (m + 1)) z
        have w2 : wO g v (m + 1) < wO g v (bO g v m) := nle_of (b := wO g v (m + 1)) w
        rw [hbe, if_pos (Or.inr ⟨z2, w2⟩)]
  intro u
  induction u with
  | zero =>
    intro i h1 x5 x6 x7 hi a1 a2 a3 a4 a5
    exact body i (by omega) (fun z => absurd z (by omega)) h1 x5 x6 x7 a1 a2 a3 a4 a5
  | succ u ih =>
    intro i h1 x5 x6 x7 hi a1 a2 a3 a4 a5
    exact body i (by omega) (fun _ h2 y5 y6 y7 b1 b2 b3 b4 b5 => ih (i + 1) h2 y5 y6 y7 (by omega) b1 b2 b3 b4 b5) h1 x5 x6 x7 a1 a2 a3 a4 a5
theorem M_orders {G : td_G} {d : Nat} {h : td_H} {s : gS} (x1 x2 : Int32) (O : OK s) (I : MI s h) : (okOr s.1 x1 x2 → td_C G (d + 7) mX10_orders [.ref 85, .int x1, .int x2] h (mPost (aOrd s.1 (ix x1) x2) s h)) ∧ (¬ okOr s.1 x1 x2 → td_C G (d + 7) mX10_orders [.ref 85, .int x1, .int x2] h (mPost (-1) s h)) := by
  have e9 : h 86 9 = nI (s.1 1 0) := I.1.2.1
  have hn := O.1.n
  have bad : (some (Value.int (-1)) = some (.int (-1)) ∧ MI s h ∧ FD h h) := ⟨rfl, I, FD.rf h⟩
  have ev31 : evN (s.1 1 0) < 2 ^ 31 := by
    have p2 : (2 : Nat) ^ s.1 1 0 ≤ 4096 := Nat.pow_le_pow_right (n := 2) (by decide) hn
    unfold evN; omega
  refine ⟨fun ok => ?_, fun nk => ?_⟩
  · obtain ⟨o1, o2, o3⟩ := ok
    obtain ⟨v, v0, v1, v2, rfl, ev⟩ := ev_v hn o1
    rw [ev] at o2 o3 ⊢
    have oV : ordV s.1 v := ⟨pop_pos v0 v2, o2, v1⟩
    refine td_entry rfl (Nat.le_of_ble_eq_true rfl) rfl (gX10_orders_0 (c := s.1) ?_)
    rw [e9, ev_n hn, on_v v2]
    refine ⟨fun y => absurd ((in64c ev31).mpr o1) (bz y), fun _ => ⟨fun y => absurd (lt_of (a := 6) y) (by omega), fun _ => ⟨fun _ => ⟨O.1, O.2.1, I.1, fun h2 hh => ?_⟩, fun y => absurd ((in64d (by omega)).mpr o3) (bz y)⟩⟩⟩
    refine td_forH (s.1 1 0) (fun p => [(0, .ref 85), (1, .int (nI v)), (2, .int x2), (3, .int (nI (popc v))), (4, .int (nI (fb_ct (bits v) p))), (5, .int (nI p))]) (fun p h3 => FrW h2 h3 ∧ ∀ a, a < fb_ct (bits v) p → h3 99 a = nI (wh v a)) rfl ⟨fun _ _ _ => rfl, fun a ha => absurd ha (by show ¬ a < 0; omega)⟩ (fun p hp h3 hI ih => ?_) (fun h3 hI => ?_)
    · obtain ⟨hF, hV⟩ := hI
      refine gX10_orders_59 ?_
      rw [hF 86 9 (by omega), show h2 86 9 = nI (s.1 1 0) from hh.2.2.2.1, bit_of v2 (by omega)]
      refine ⟨fun y => absurd (le_of y) (by omega), fun _ => ?_⟩
      have top : fb_ct (bits v) (p + 1) ≤ popc v := fb_ct_mono (bits v) (by omega)
      by_cases z : bits v p = true
      · have sc : fb_ct (bits v) (p + 1) = fb_ct (bits v) p + 1 := by rw [fb_ct_succ, if_pos z]
        have b1 : ¬ b2i ((if bits v p = true then 1 else 0 : Int32) = 1) = 0 := by rw [if_pos z]; decide
        rw [if_neg b1, if_neg b1, ixn (i := fb_ct (bits v) p) (by omega)]
        refine ⟨fun _ => ⟨vp_in_nI (by omega) (by decide), trivial⟩, td_to (ih _ ⟨fun a b q => ?_, fun a ha => ?_⟩) (by rw [nI_1, nI_1, sc]) rfl rfl⟩
        · rw [hu_app, if_neg (by omega)]; exact hF a b q
        · rw [hu_app]
          by_cases e : a = fb_ct (bits v) p
          · rw [if_pos ⟨rfl, e⟩, e, wh_of (by omega) z]
          · rw [if_neg (fun w => e w.2)]; exact hV a (by omega)
      · have sc : fb_ct (bits v) (p + 1) = fb_ct (bits v) p := by rw [fb_ct_succ, if_neg z]; rfl
        have b1 : b2i ((if bits v p = true then 1 else 0 : Int32) = 1) = 0 := by rw [if_neg z]; decide
        rw [if_pos b1, if_pos b1]
        exact ⟨fun y => absurd b1 y, td_to (ih _ ⟨hF, fun a ha => hV a (by omega)⟩) (by rw [nI_1, sc]) rfl rfl⟩
    · obtain ⟨hF, hV⟩ := hI
      rw [ct_top hn v1] at hV ⊢
      refine gX10_orders_59 ?_
      rw [hF 86 9 (by omega), show h2 86 9 = nI (s.1 1 0) from hh.2.2.2.1]
      refine ⟨fun _ => ?_, fun y => absurd (nle_of y) (by omega)⟩
      have Z3 : mZ s.1 86 h3 := I.1.fr (fun b => by rw [hF 86 b (by omega), hh.1 86 b (by omega)])
      refine m_sort O.1 oV Z3 hV (fun h4 F4 S4 => ?_)
      refine gX10_orders_101 ⟨fun _ => ?_, fun y => absurd (nle_of y) (by omega)⟩
      have fp := (fct_pos oV.1 oV.2.1).1
      refine m_search O I oV o3 (fct (popc v) - 1) 0 h4 0 0 0 (by omega) (hh.1.N.tr (hF.N.tr F4.N)) (fun a ha => ?_) S4.2.1 (Or.inl ⟨rfl, rfl, rfl, rfl⟩) ⟨s.1, F4.C (hF.C hh.2), fun _ _ _ => rfl⟩
      rw [prm_0 oV.1 oV.2.1 ha]; exact S4.2.2 a ha
  · refine td_entry rfl (Nat.le_of_ble_eq_true rfl) rfl (gX10_orders_0 (c := s.1) ?_)
    rw [e9, ev_n hn]
    refine ⟨fun _ => bad, fun y1 => ⟨fun _ => bad, fun y2 => ⟨fun y3 => absurd ?_ nk, fun _ => bad⟩⟩⟩
    have o1 := (in64c ev31).mp (bnz y1)
    obtain ⟨v, v0, v1, v2, rfl, ev⟩ := ev_v hn o1
    rw [on_v v2] at y2 y3
    have hp : popc v ≤ 12 := fb_ct_le _ _
    exact ⟨o1, by rw [ev]; exact nlt_of (a := 6) y2, by rw [ev]; exact (in64d (by omega)).mp (bnz y3)⟩
