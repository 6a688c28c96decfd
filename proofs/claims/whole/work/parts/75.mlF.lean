/-! ===== the model: times ===== -/
set_option maxRecDepth 20000 in
set_option maxHeartbeats 4000000 in
theorem gX10_times_0 {G : td_G} {d : Nat} {Post : td_P} {x1 x2 x3 x4 x5 : Int32} {h : td_H} (K : ((b2i ((0 ≤ x1 ∧ x1 < 4) ∧ (0 ≤ x2 ∧ x2 < 3))) = 0 → (Post (some (.int (-1))) h)) ∧ (¬ (b2i ((0 ≤ x1 ∧ x1 < 4) ∧ (0 ≤ x2 ∧ x2 < 3))) = 0 → (((b2i (1 ≤ x4.toInt64 ∧ x4.toInt64 ≤ 8)) = 0 → (Post (some (.int (-1))) h)) ∧ (¬ (b2i (1 ≤ x4.toInt64 ∧ x4.toInt64 ≤ 8)) = 0 → ((¬ (b2i (0 ≤ x5.toInt64 ∧ x5.toInt64 ≤ 2)) = 0 → (vp_in x1 4 ∧ (h 104 (ix x1) = -1 ∨ vp_in (h 104 (ix x1)) 3) ∧ (0 ≤ x2 ∧ x2 < 3) ∧ ((0 ≤ (rfI (h 104 (ix x1)) (h 105 (ix x1)) x2 x3 (2 * x4)) → td_J G (d + 7) mX10_times Post 68 [(0, .ref 85), (1, .int x1), (2, .int x2), (3, .int x3), (4, .int x4), (5, .int x5), (6, .int (rfI (h 104 (ix x1)) (h 105 (ix x1)) x2 x3 (2 * x4))), (7, .int ((16 * x1) + x3)), (8, .int 0)] [] h) ∧ (¬ 0 ≤ (rfI (h 104 (ix x1)) (h 105 (ix x1)) x2 x3 (2 * x4)) → (Post (some (.int (rfI (h 104 (ix x1)) (h 105 (ix x1)) x2 x3 (2 * x4)))) h))))) ∧ ((b2i (0 ≤ x5.toInt64 ∧ x5.toInt64 ≤ 2)) = 0 → (Post (some (.int (-1))) h))))))) : td_J G (d + 7) mX10_times Post 0 [(0, .ref 85), (1, .int x1), (2, .int x2), (3, .int x3), (4, .int x4), (5, .int x5)] [] h := by
  refine td_iload_n 1 dX10_times_0 rfl ?_
  refine td_iload_n 2 dX10_times_1 rfl ?_
  refine cl_X10_250 rfl dX10_times_2 (Nat.le_of_ble_eq_true rfl) (c_isSheet x1 x2) (eR_k ?_)
  refine td_eqs (st2 := [.int (b2i ((0 ≤ x1 ∧ x1 < 4) ∧ (0 ≤ x2 ∧ x2 < 3)))]) rfl ?_
  obtain ⟨Kt, Kf⟩ := K
  refine td_if_eq (tgt := 34) dX10_times_5 (by decide) (fun q5 => ?_) (fun q5 => ?_)
  · have K := Kt q5
    refine td_iconst (v := (-1)) dX10_times_34 (by decide) ?_
    exact td_ireturn rfl dX10_times_35 K
  · have K := Kf q5
    refine td_iload 4 dX10_times_8 rfl ?_
    refine td_i2l dX10_times_10 ?_
    refine td_lconst (v := 1) dX10_times_11 (by decide) ?_
    refine td_ldc2 (v := 8) kw_X10_73 dX10_times_12 ?_
    refine cl_X10_75 rfl dX10_times_15 (Nat.le_of_ble_eq_true rfl) (c_in x4.toInt64 1 8) (eR_k ?_)
    refine td_eqs (st2 := [.int (b2i (1 ≤ x4.toInt64 ∧ x4.toInt64 ≤ 8))]) rfl ?_
    obtain ⟨Kt, Kf⟩ := K
    refine td_if_eq (tgt := 34) dX10_times_18 (by decide) (fun q18 => ?_) (fun q18 => ?_)
    · have K := Kt q18
      refine td_iconst (v := (-1)) dX10_times_34 (by decide) ?_
      exact td_ireturn rfl dX10_times_35 K
    · have K := Kf q18
      refine td_iload 5 dX10_times_21 rfl ?_
      refine td_i2l dX10_times_23 ?_
      refine td_lconst (v := 0) dX10_times_24 (by decide) ?_
      refine td_ldc2 (v := 2) kw_X10_253 dX10_times_25 ?_
      refine cl_X10_75 rfl dX10_times_28 (Nat.le_of_ble_eq_true rfl) (c_in x5.toInt64 0 2) (eR_k ?_)
      refine td_eqs (st2 := [.int (b2i (0 ≤ x5.toInt64 ∧ x5.toInt64 ≤ 2))]) rfl ?_
      obtain ⟨Kt, Kf⟩ := K
      refine td_if_ne (tgt := 36) dX10_times_31 (by decide) (fun q31 => ?_) (fun q31 => ?_)
      · have K := Kt q31
        refine td_aload_n 0 dX10_times_36 rfl ?_
        refine td_iload_n 1 dX10_times_37 rfl ?_
        refine td_iload_n 2 dX10_times_38 rfl ?_
        refine td_iload_n 3 dX10_times_39 rfl ?_
        refine td_iconst (v := 2) dX10_times_40 (by decide) ?_
        refine td_iload 4 dX10_times_41 rfl ?_
        refine td_imul dX10_times_43 ?_
        obtain ⟨e44_0, K⟩ := K
        obtain ⟨e44_1, K⟩ := K
        obtain ⟨e44_2, K⟩ := K
        refine cl_X10_255 rfl kp_85 dX10_times_44 (Nat.le_of_ble_eq_true rfl) (c_lacks x1 x2 x3 (2 * x4) e44_0 e44_1 e44_2) (eR_k ?_)
        refine td_eqs (st2 := [.int (rfI (h 104 (ix x1)) (h 105 (ix x1)) x2 x3 (2 * x4))]) rfl ?_
        refine td_istore (lv2 := [(0, .ref 85), (1, .int x1), (2, .int x2), (3, .int x3), (4, .int x4), (5, .int x5), (6, .int (rfI (h 104 (ix x1)) (h 105 (ix x1)) x2 x3 (2 * x4)))]) dX10_times_47 (by decide) rfl ?_
        refine td_iload 6 dX10_times_49 rfl ?_
        obtain ⟨Kt, Kf⟩ := K
        refine td_if_ge (tgt := 57) dX10_times_51 (by decide) (fun q51 => ?_) (fun q51 => ?_)
        · have K := Kt q51
          refine td_bipush (v := 16) dX10_times_57 (by decide) ?_
          refine td_iload_n 1 dX10_times_59 rfl ?_
          refine td_imul dX10_times_60 ?_
          refine td_iload_n 3 dX10_times_61 rfl ?_
          refine td_iadd dX10_times_62 ?_
          refine td_istore (lv2 := [(0, .ref 85), (1, .int x1), (2, .int x2), (3, .int x3), (4, .int x4), (5, .int x5), (6, .int (rfI (h 104 (ix x1)) (h 105 (ix x1)) x2 x3 (2 * x4))), (7, .int ((16 * x1) + x3))]) dX10_times_63 (by decide) rfl ?_
          refine td_iconst (v := 0) dX10_times_65 (by decide) ?_
          refine td_istore (lv2 := [(0, .ref 85), (1, .int x1), (2, .int x2), (3, .int x3), (4, .int x4), (5, .int x5), (6, .int (rfI (h 104 (ix x1)) (h 105 (ix x1)) x2 x3 (2 * x4))), (7, .int ((16 * x1) + x3)), (8, .int 0)]) dX10_times_66 (by decide) rfl ?_
          exact K
        · have K := Kf q51
          refine td_iload 6 dX10_times_54 rfl ?_
          exact td_ireturn rfl dX10_times_56 K
      · have K := Kf q31
        refine td_iconst (v := (-1)) dX10_times_34 (by decide) ?_
        exact td_ireturn rfl dX10_times_35 K
set_option maxRecDepth 20000 in
set_option maxHeartbeats 4000000 in
theorem gX10_times_68 {G : td_G} {d : Nat} {Post : td_P} {c : nH} {x1 x2 x3 x4 x5 x6 x7 x8 : Int32} {h : td_H} (K : (x4 ≤ x8 → (wfC c ∧ 12 ≤ c 5 0 ∧ mZ c 86 h ∧ (∀ h129 : td_H, (FrA h h129 ∧ rmC c h129) → (td_J G (d + 7) mX10_times Post 142 [(0, .ref 85), (1, .int x1), (2, .int x2), (3, .int x3), (4, .int x4), (5, .int x5), (6, .int x6), (7, .int x7), (8, .int 0), (9, .int (-4)), (10, .int 0)] [] h129)))) ∧ (¬ x4 ≤ x8 → (vp_in (x7 + (2 * x8)) 64 ∧ (((b2i (0 ≤ ((h 106 (ix (x7 + (2 * x8))))).toInt64 ∧ ((h 106 (ix (x7 + (2 * x8))))).toInt64 ≤ (((h 86 9) - 1).toInt64))) = 0 → (Post (some (.int (-2))) h)) ∧ (¬ (b2i (0 ≤ ((h 106 (ix (x7 + (2 * x8))))).toInt64 ∧ ((h 106 (ix (x7 + (2 * x8))))).toInt64 ≤ (((h 86 9) - 1).toInt64))) = 0 → (vp_in ((x7 + (2 * x8)) + 1) 64 ∧ ((¬ (b2i (0 ≤ ((h 106 (ix ((x7 + (2 * x8)) + 1))).toInt64) ∧ ((h 106 (ix ((x7 + (2 * x8)) + 1))).toInt64) ≤ 120)) = 0 → td_J G (d + 7) mX10_times Post 68 [(0, .ref 85), (1, .int x1), (2, .int x2), (3, .int x3), (4, .int x4), (5, .int x5), (6, .int x6), (7, .int x7), (8, .int (x8 + 1))] [] h) ∧ ((b2i (0 ≤ ((h 106 (ix ((x7 + (2 * x8)) + 1))).toInt64) ∧ ((h 106 (ix ((x7 + (2 * x8)) + 1))).toInt64) ≤ 120)) = 0 → (Post (some (.int (-2))) h))))))))) : td_J G (d + 7) mX10_times Post 68 [(0, .ref 85), (1, .int x1), (2, .int x2), (3, .int x3), (4, .int x4), (5, .int x5), (6, .int x6), (7, .int x7), (8, .int x8)] [] h := by
  refine td_iload 8 dX10_times_68 rfl ?_
  refine td_iload 4 dX10_times_70 rfl ?_
  obtain ⟨Kt, Kf⟩ := K
  refine td_icmp_ge (tgt := 128) dX10_times_72 (by decide) (fun q72 => ?_) (fun q72 => ?_)
  · have K := Kt q72
    refine td_aload_n 0 dX10_times_128 rfl ?_
    obtain ⟨e129_0, K⟩ := K
    obtain ⟨e129_1, K⟩ := K
    obtain ⟨e129_2, K⟩ := K
    refine cl_X10_104 rfl kp_85 dX10_times_129 (Nat.le_of_ble_eq_true rfl) (c_asTold c e129_0 e129_1 e129_2) ?_
    rintro _ h129 ⟨rfl, f129⟩
    have K := K h129 f129
    refine td_eqs (st2 := []) rfl ?_
    refine td_iconst (v := 0) dX10_times_132 (by decide) ?_
    refine td_istore (lv2 := [(0, .ref 85), (1, .int x1), (2, .int x2), (3, .int x3), (4, .int x4), (5, .int x5), (6, .int x6), (7, .int x7), (8, .int 0)]) dX10_times_133 (by decide) rfl ?_
    refine td_bipush (v := (-4)) dX10_times_135 (by decide) ?_
    refine td_istore (lv2 := [(0, .ref 85), (1, .int x1), (2, .int x2), (3, .int x3), (4, .int x4), (5, .int x5), (6, .int x6), (7, .int x7), (8, .int 0), (9, .int (-4))]) dX10_times_137 (by decide) rfl ?_
    refine td_iconst (v := 0) dX10_times_139 (by decide) ?_
    refine td_istore (lv2 := [(0, .ref 85), (1, .int x1), (2, .int x2), (3, .int x3), (4, .int x4), (5, .int x5), (6, .int x6), (7, .int x7), (8, .int 0), (9, .int (-4)), (10, .int 0)]) dX10_times_140 (by decide) rfl ?_
    exact K
  · have K := Kf q72
    refine td_aload_n 0 dX10_times_75 rfl ?_
    refine td_aload_n 0 dX10_times_76 rfl ?_
    refine gf_X10_70 rfl kp_85 dX10_times_77 ?_
    refine td_iload 7 dX10_times_80 rfl ?_
    refine td_iconst (v := 2) dX10_times_82 (by decide) ?_
    refine td_iload 8 dX10_times_83 rfl ?_
    refine td_imul dX10_times_85 ?_
    refine td_iadd dX10_times_86 ?_
    obtain ⟨e87, K⟩ := K
    refine td_ialdc (j := (ix (x7 + (2 * x8)))) kp_106 (by decide) e87 rfl dX10_times_87 ?_
    refine cl_X10_119 rfl kp_85 dX10_times_88 (Nat.le_of_ble_eq_true rfl) (c_isPerson (h 106 (ix (x7 + (2 * x8))))) (eR_k ?_)
    refine td_eqs (st2 := [.int (b2i (0 ≤ ((h 106 (ix (x7 + (2 * x8))))).toInt64 ∧ ((h 106 (ix (x7 + (2 * x8))))).toInt64 ≤ (((h 86 9) - 1).toInt64)))]) rfl ?_
    obtain ⟨Kt, Kf⟩ := K
    refine td_if_eq (tgt := 119) dX10_times_91 (by decide) (fun q91 => ?_) (fun q91 => ?_)
    · have K := Kt q91
      refine td_bipush (v := (-2)) dX10_times_119 (by decide) ?_
      exact td_ireturn rfl dX10_times_121 K
    · have K := Kf q91
      refine td_aload_n 0 dX10_times_94 rfl ?_
      refine gf_X10_70 rfl kp_85 dX10_times_95 ?_
      refine td_iload 7 dX10_times_98 rfl ?_
      refine td_iconst (v := 2) dX10_times_100 (by decide) ?_
      refine td_iload 8 dX10_times_101 rfl ?_
      refine td_imul dX10_times_103 ?_
      refine td_iadd dX10_times_104 ?_
      refine td_iconst (v := 1) dX10_times_105 (by decide) ?_
      refine td_iadd dX10_times_106 ?_
      obtain ⟨e107, K⟩ := K
      refine td_ialdc (j := (ix ((x7 + (2 * x8)) + 1))) kp_106 (by decide) e107 rfl dX10_times_107 ?_
      refine td_i2l dX10_times_108 ?_
      refine td_lconst (v := 0) dX10_times_109 (by decide) ?_
      refine td_ldc2 (v := 120) kw_X10_259 dX10_times_110 ?_
      refine cl_X10_75 rfl dX10_times_113 (Nat.le_of_ble_eq_true rfl) (c_in ((h 106 (ix ((x7 + (2 * x8)) + 1))).toInt64) 0 120) (eR_k ?_)
      refine td_eqs (st2 := [.int (b2i (0 ≤ ((h 106 (ix ((x7 + (2 * x8)) + 1))).toInt64) ∧ ((h 106 (ix ((x7 + (2 * x8)) + 1))).toInt64) ≤ 120))]) rfl ?_
      obtain ⟨Kt, Kf⟩ := K
      refine td_if_ne (tgt := 122) dX10_times_116 (by decide) (fun q116 => ?_) (fun q116 => ?_)
      · have K := Kt q116
        refine td_iinc 8 (v := x8 + 1) (lv2 := [(0, .ref 85), (1, .int x1), (2, .int x2), (3, .int x3), (4, .int x4), (5, .int x5), (6, .int x6), (7, .int x7), (8, .int (x8 + 1))]) dX10_times_122 rfl (congrArg (x8 + ·) (by decide)) (by decide) rfl ?_
        refine td_goto (tgt := 68) dX10_times_125 (by decide) ?_
        exact K
      · have K := Kf q116
        refine td_bipush (v := (-2)) dX10_times_119 (by decide) ?_
        exact td_ireturn rfl dX10_times_121 K
set_option maxRecDepth 20000 in
set_option maxHeartbeats 4000000 in
theorem gX10_times_142 {G : td_G} {d : Nat} {Post : td_P} {x1 x2 x3 x4 x5 x6 x7 x8 x9 x10 : Int32} {h : td_H} (K : (20 < x10 → (Post (some (.int (if x5 = 0 then x8 else if x8 = 0 then (-4) else if x5 = 1 then (x9 / 10) else (jrem x9 10) : Int32))) h)) ∧ (¬ 20 < x10 → td_J G (d + 7) mX10_times Post 152 [(0, .ref 85), (1, .int x1), (2, .int x2), (3, .int x3), (4, .int x4), (5, .int x5), (6, .int x6), (7, .int x7), (8, .int x8), (9, .int x9), (10, .int x10), (11, .int 1)] [] h)) : td_J G (d + 7) mX10_times Post 142 [(0, .ref 85), (1, .int x1), (2, .int x2), (3, .int x3), (4, .int x4), (5, .int x5), (6, .int x6), (7, .int x7), (8, .int x8), (9, .int x9), (10, .int x10)] [] h := by
  refine td_iload 10 dX10_times_142 rfl ?_
  refine td_bipush (v := 20) dX10_times_144 (by decide) ?_
  obtain ⟨Kt, Kf⟩ := K
  refine td_icmp_gt (tgt := 310) dX10_times_146 (by decide) (fun q146 => ?_) (fun q146 => ?_)
  · have K := Kt q146
    refine td_iload 5 dX10_times_310 rfl ?_
    have KJ349 : td_J G (d + 7) mX10_times Post 349 [(0, .ref 85), (1, .int x1), (2, .int x2), (3, .int x3), (4, .int x4), (5, .int x5), (6, .int x6), (7, .int x7), (8, .int x8), (9, .int x9), (10, .int x10)] [.int (if x5 = 0 then x8 else if x8 = 0 then (-4) else if x5 = 1 then (x9 / 10) else (jrem x9 10) : Int32)] h := by
      exact td_ireturn rfl dX10_times_349 K
    refine td_if_ne (tgt := 320) dX10_times_312 (by decide) (fun q312 => ?_) (fun q312 => ?_)
    · skip
      refine td_iload 8 dX10_times_320 rfl ?_
      refine td_if_ne (tgt := 330) dX10_times_322 (by decide) (fun q322 => ?_) (fun q322 => ?_)
      · skip
        refine td_iload 5 dX10_times_330 rfl ?_
        refine td_iconst (v := 1) dX10_times_332 (by decide) ?_
        refine td_icmp_ne (tgt := 344) dX10_times_333 (by decide) (fun q333 => ?_) (fun q333 => ?_)
        · skip
          refine td_iload 9 dX10_times_344 rfl ?_
          refine td_bipush (v := 10) dX10_times_346 (by decide) ?_
          refine td_irem dX10_times_348 (by decide) ?_
          exact td_to KJ349 rfl (by rw [show (if x5 = 0 then x8 else if x8 = 0 then (-4) else if x5 = 1 then (x9 / 10) else (jrem x9 10) : Int32) = _ from (if_neg q312).trans ((if_neg q322).trans (if_neg q333))]) rfl
        · skip
          refine td_iload 9 dX10_times_336 rfl ?_
          refine td_bipush (v := 10) dX10_times_338 (by decide) ?_
          refine td_idiv dX10_times_340 (by decide) ?_
          refine td_goto (tgt := 349) dX10_times_341 (by decide) ?_
          exact td_to KJ349 rfl (by rw [show (if x5 = 0 then x8 else if x8 = 0 then (-4) else if x5 = 1 then (x9 / 10) else (jrem x9 10) : Int32) = _ from (if_neg q312).trans ((if_neg q322).trans (if_pos q333))]) rfl
      · skip
        refine td_bipush (v := (-4)) dX10_times_325 (by decide) ?_
        refine td_goto (tgt := 349) dX10_times_327 (by decide) ?_
        exact td_to KJ349 rfl (by rw [show (if x5 = 0 then x8 else if x8 = 0 then (-4) else if x5 = 1 then (x9 / 10) else (jrem x9 10) : Int32) = _ from (if_neg q312).trans (if_pos q322)]) rfl
    · skip
      refine td_iload 8 dX10_times_315 rfl ?_
      refine td_goto (tgt := 349) dX10_times_317 (by decide) ?_
      exact td_to KJ349 rfl (by rw [show (if x5 = 0 then x8 else if x8 = 0 then (-4) else if x5 = 1 then (x9 / 10) else (jrem x9 10) : Int32) = _ from if_pos q312]) rfl
  · have K := Kf q146
    refine td_iconst (v := 1) dX10_times_149 (by decide) ?_
    refine td_istore (lv2 := [(0, .ref 85), (1, .int x1), (2, .int x2), (3, .int x3), (4, .int x4), (5, .int x5), (6, .int x6), (7, .int x7), (8, .int x8), (9, .int x9), (10, .int x10), (11, .int 1)]) dX10_times_150 (by decide) rfl ?_
    exact K
set_option maxRecDepth 20000 in
set_option maxHeartbeats 4000000 in
theorem gX10_times_152 {G : td_G} {d : Nat} {Post : td_P} {c : nH} {x1 x2 x3 x4 x5 x6 x7 x8 x9 x10 x11 : Int32} {h : td_H} (K : (9 < x11 → td_J G (d + 7) mX10_times Post 142 [(0, .ref 85), (1, .int x1), (2, .int x2), (3, .int x3), (4, .int x4), (5, .int x5), (6, .int x6), (7, .int x7), (8, .int x8), (9, .int x9), (10, .int (x10 + 1))] [] h) ∧ (¬ 9 < x11 → (rmC c (hu (hu h 87 3 x10) 87 4 x11) ∧ (∀ h176 : td_H, (Fr (hu (hu h 87 3 x10) 87 4 x11) h176 ∧ rmS (sEndK c (sRun c 120) (c 1 0)) h176) → (td_J G (d + 7) mX10_times Post 185 [(0, .ref 85), (1, .int x1), (2, .int x2), (3, .int x3), (4, .int x4), (5, .int x5), (6, .int x6), (7, .int x7), (8, .int x8), (9, .int x9), (10, .int x10), (11, .int x11), (12, .int 1), (13, .int 0)] [] h176))))) : td_J G (d + 7) mX10_times Post 152 [(0, .ref 85), (1, .int x1), (2, .int x2), (3, .int x3), (4, .int x4), (5, .int x5), (6, .int x6), (7, .int x7), (8, .int x8), (9, .int x9), (10, .int x10), (11, .int x11)] [] h := by
  refine td_iload 11 dX10_times_152 rfl ?_
  refine td_bipush (v := 9) dX10_times_154 (by decide) ?_
  obtain ⟨Kt, Kf⟩ := K
  refine td_icmp_gt (tgt := 304) dX10_times_156 (by decide) (fun q156 => ?_) (fun q156 => ?_)
  · have K := Kt q156
    refine td_iinc 10 (v := x10 + 1) (lv2 := [(0, .ref 85), (1, .int x1), (2, .int x2), (3, .int x3), (4, .int x4), (5, .int x5), (6, .int x6), (7, .int x7), (8, .int x8), (9, .int x9), (10, .int (x10 + 1)), (11, .int x11)]) dX10_times_304 rfl (congrArg (x10 + ·) (by decide)) (by decide) rfl ?_
    refine td_goto (tgt := 142) dX10_times_307 (by decide) ?_
    refine td_drop (lv2 := [(0, .ref 85), (1, .int x1), (2, .int x2), (3, .int x3), (4, .int x4), (5, .int x5), (6, .int x6), (7, .int x7), (8, .int x8), (9, .int x9), (10, .int (x10 + 1))]) [0, 1, 2, 3, 4, 5, 6, 7, 8, 9, 10] rfl ?_
    exact K
  · have K := Kf q156
    refine td_aload_n 0 dX10_times_159 rfl ?_
    refine gf_X10_13 rfl kp_85 dX10_times_160 ?_
    refine td_iconst (v := 3) dX10_times_163 (by decide) ?_
    refine td_iload 10 dX10_times_164 rfl ?_
    refine td_iastc (j := 3) kp_87 (by decide) (by unfold vp_in; decide) (by decide) dX10_times_166 ?_
    refine td_aload_n 0 dX10_times_167 rfl ?_
    refine gf_X10_13 rfl kp_85 dX10_times_168 ?_
    refine td_iconst (v := 4) dX10_times_171 (by decide) ?_
    refine td_iload 11 dX10_times_172 rfl ?_
    refine td_iastc (j := 4) kp_87 (by decide) (by unfold vp_in; decide) (by decide) dX10_times_174 ?_
    refine td_aload_n 0 dX10_times_175 rfl ?_
    obtain ⟨e176_0, K⟩ := K
    refine cl_X10_228 rfl kp_85 dX10_times_176 (Nat.le_of_ble_eq_true rfl) (c_run c e176_0) ?_
    rintro _ h176 ⟨rfl, f176⟩
    have K := K h176 f176
    refine td_eqs (st2 := []) rfl ?_
    refine td_iconst (v := 1) dX10_times_179 (by decide) ?_
    refine td_istore (lv2 := [(0, .ref 85), (1, .int x1), (2, .int x2), (3, .int x3), (4, .int x4), (5, .int x5), (6, .int x6), (7, .int x7), (8, .int x8), (9, .int x9), (10, .int x10), (11, .int x11), (12, .int 1)]) dX10_times_180 (by decide) rfl ?_
    refine td_iconst (v := 0) dX10_times_182 (by decide) ?_
    refine td_istore (lv2 := [(0, .ref 85), (1, .int x1), (2, .int x2), (3, .int x3), (4, .int x4), (5, .int x5), (6, .int x6), (7, .int x7), (8, .int x8), (9, .int x9), (10, .int x10), (11, .int x11), (12, .int 1), (13, .int 0)]) dX10_times_183 (by decide) rfl ?_
    exact K
set_option maxRecDepth 20000 in
set_option maxHeartbeats 4000000 in
theorem gX10_times_185 {G : td_G} {d : Nat} {Post : td_P} {x1 x2 x3 x4 x5 x6 x7 x8 x9 x10 x11 x12 x13 : Int32} {h : td_H} (K : (x4 ≤ x13 → td_J G (d + 7) mX10_times Post 152 [(0, .ref 85), (1, .int x1), (2, .int x2), (3, .int x3), (4, .int x4), (5, .int x5), (6, .int x6), (7, .int x7), (8, .int (x8 + (if x12 = 0 then 0 else 1 : Int32))), (9, .int (if x12 = 0 then x9 else if x8 = 0 then ((10 * x10) + x11) else x9 : Int32)), (10, .int x10), (11, .int (x11 + 1))] [] h) ∧ (¬ x4 ≤ x13 → (vp_in (x7 + (2 * x13)) 64 ∧ (vp_in (h 106 (ix (x7 + (2 * x13)))) 12 ∧ ((¬ x12 = 0 → (vp_in ((x7 + (2 * x13)) + 1) 64 ∧ True)) ∧ (td_J G (d + 7) mX10_times Post 185 [(0, .ref 85), (1, .int x1), (2, .int x2), (3, .int x3), (4, .int x4), (5, .int x5), (6, .int x6), (7, .int x7), (8, .int x8), (9, .int x9), (10, .int x10), (11, .int x11), (12, .int (if x12 = 0 then 0 else if (if 0 ≤ (h 94 (ix (h 106 (ix (x7 + (2 * x13)))))) then (h 94 (ix (h 106 (ix (x7 + (2 * x13)))))) else 120 : Int32) = (h 106 (ix ((x7 + (2 * x13)) + 1))) then 1 else 0 : Int32)), (13, .int (x13 + 1))] [] h)))))) : td_J G (d + 7) mX10_times Post 185 [(0, .ref 85), (1, .int x1), (2, .int x2), (3, .int x3), (4, .int x4), (5, .int x5), (6, .int x6), (7, .int x7), (8, .int x8), (9, .int x9), (10, .int x10), (11, .int x11), (12, .int x12), (13, .int x13)] [] h := by
  refine td_iload 13 dX10_times_185 rfl ?_
  refine td_iload 4 dX10_times_187 rfl ?_
  obtain ⟨Kt, Kf⟩ := K
  refine td_icmp_ge (tgt := 258) dX10_times_189 (by decide) (fun q189 => ?_) (fun q189 => ?_)
  · have K := Kt q189
    refine td_iload 12 dX10_times_258 rfl ?_
    have KJ281 : td_J G (d + 7) mX10_times Post 281 [(0, .ref 85), (1, .int x1), (2, .int x2), (3, .int x3), (4, .int x4), (5, .int x5), (6, .int x6), (7, .int x7), (8, .int x8), (9, .int x9), (10, .int x10), (11, .int x11), (12, .int x12), (13, .int x13)] [.int (if x12 = 0 then x9 else if x8 = 0 then ((10 * x10) + x11) else x9 : Int32)] h := by
      refine td_istore (lv2 := [(0, .ref 85), (1, .int x1), (2, .int x2), (3, .int x3), (4, .int x4), (5, .int x5), (6, .int x6), (7, .int x7), (8, .int x8), (9, .int (if x12 = 0 then x9 else if x8 = 0 then ((10 * x10) + x11) else x9 : Int32)), (10, .int x10), (11, .int x11), (12, .int x12), (13, .int x13)]) dX10_times_281 (by decide) rfl ?_
      refine td_iload 8 dX10_times_283 rfl ?_
      refine td_iload 12 dX10_times_285 rfl ?_
      have KJ295 : td_J G (d + 7) mX10_times Post 295 [(0, .ref 85), (1, .int x1), (2, .int x2), (3, .int x3), (4, .int x4), (5, .int x5), (6, .int x6), (7, .int x7), (8, .int x8), (9, .int (if x12 = 0 then x9 else if x8 = 0 then ((10 * x10) + x11) else x9 : Int32)), (10, .int x10), (11, .int x11), (12, .int x12), (13, .int x13)] [.int (if x12 = 0 then 0 else 1 : Int32), .int x8] h := by
        refine td_iadd dX10_times_295 ?_
        refine td_istore (lv2 := [(0, .ref 85), (1, .int x1), (2, .int x2), (3, .int x3), (4, .int x4), (5, .int x5), (6, .int x6), (7, .int x7), (8, .int (x8 + (if x12 = 0 then 0 else 1 : Int32))), (9, .int (if x12 = 0 then x9 else if x8 = 0 then ((10 * x10) + x11) else x9 : Int32)), (10, .int x10), (11, .int x11), (12, .int x12), (13, .int x13)]) dX10_times_296 (by decide) rfl ?_
        refine td_iinc 11 (v := x11 + 1) (lv2 := [(0, .ref 85), (1, .int x1), (2, .int x2), (3, .int x3), (4, .int x4), (5, .int x5), (6, .int x6), (7, .int x7), (8, .int (x8 + (if x12 = 0 then 0 else 1 : Int32))), (9, .int (if x12 = 0 then x9 else if x8 = 0 then ((10 * x10) + x11) else x9 : Int32)), (10, .int x10), (11, .int (x11 + 1)), (12, .int x12), (13, .int x13)]) dX10_times_298 rfl (congrArg (x11 + ·) (by decide)) (by decide) rfl ?_
        refine td_goto (tgt := 152) dX10_times_301 (by decide) ?_
        refine td_drop (lv2 := [(0, .ref 85), (1, .int x1), (2, .int x2), (3, .int x3), (4, .int x4), (5, .int x5), (6, .int x6), (7, .int x7), (8, .int (x8 + (if x12 = 0 then 0 else 1 : Int32))), (9, .int (if x12 = 0 then x9 else if x8 = 0 then ((10 * x10) + x11) else x9 : Int32)), (10, .int x10), (11, .int (x11 + 1))]) [0, 1, 2, 3, 4, 5, 6, 7, 8, 9, 10, 11] rfl ?_
        exact K
      refine td_if_eq (tgt := 294) dX10_times_287 (by decide) (fun q287 => ?_) (fun q287 => ?_)
      · skip
        refine td_iconst (v := 0) dX10_times_294 (by decide) ?_
        exact td_to KJ295 rfl (by rw [show (if x12 = 0 then 0 else 1 : Int32) = _ from if_pos q287]) rfl
      · skip
        refine td_iconst (v := 1) dX10_times_290 (by decide) ?_
        refine td_goto (tgt := 295) dX10_times_291 (by decide) ?_
        exact td_to KJ295 rfl (by rw [show (if x12 = 0 then 0 else 1 : Int32) = _ from if_neg q287]) rfl
    refine td_if_eq (tgt := 279) dX10_times_260 (by decide) (fun q260 => ?_) (fun q260 => ?_)
    · skip
      refine td_iload 9 dX10_times_279 rfl ?_
      exact td_to KJ281 rfl (by rw [show (if x12 = 0 then x9 else if x8 = 0 then ((10 * x10) + x11) else x9 : Int32) = _ from if_pos q260]) rfl
    · skip
      refine td_iload 8 dX10_times_263 rfl ?_
      refine td_if_ne (tgt := 279) dX10_times_265 (by decide) (fun q265 => ?_) (fun q265 => ?_)
      · skip
        refine td_iload 9 dX10_times_279 rfl ?_
        exact td_to KJ281 rfl (by rw [show (if x12 = 0 then x9 else if x8 = 0 then ((10 * x10) + x11) else x9 : Int32) = _ from (if_neg q260).trans (if_neg q265)]) rfl
      · skip
        refine td_bipush (v := 10) dX10_times_268 (by decide) ?_
        refine td_iload 10 dX10_times_270 rfl ?_
        refine td_imul dX10_times_272 ?_
        refine td_iload 11 dX10_times_273 rfl ?_
        refine td_iadd dX10_times_275 ?_
        refine td_goto (tgt := 281) dX10_times_276 (by decide) ?_
        exact td_to KJ281 rfl (by rw [show (if x12 = 0 then x9 else if x8 = 0 then ((10 * x10) + x11) else x9 : Int32) = _ from (if_neg q260).trans (if_pos q265)]) rfl
  · have K := Kf q189
    refine td_aload_n 0 dX10_times_192 rfl ?_
    refine gf_X10_34 rfl kp_85 dX10_times_193 ?_
    refine td_aload_n 0 dX10_times_196 rfl ?_
    refine gf_X10_70 rfl kp_85 dX10_times_197 ?_
    refine td_iload 7 dX10_times_200 rfl ?_
    refine td_iconst (v := 2) dX10_times_202 (by decide) ?_
    refine td_iload 13 dX10_times_203 rfl ?_
    refine td_imul dX10_times_205 ?_
    refine td_iadd dX10_times_206 ?_
    obtain ⟨e207, K⟩ := K
    refine td_ialdc (j := (ix (x7 + (2 * x13)))) kp_106 (by decide) e207 rfl dX10_times_207 ?_
    obtain ⟨e208, K⟩ := K
    refine td_ialdc (j := (ix (h 106 (ix (x7 + (2 * x13)))))) kp_94 (by decide) e208 rfl dX10_times_208 ?_
    refine td_istore (lv2 := [(0, .ref 85), (1, .int x1), (2, .int x2), (3, .int x3), (4, .int x4), (5, .int x5), (6, .int x6), (7, .int x7), (8, .int x8), (9, .int x9), (10, .int x10), (11, .int x11), (12, .int x12), (13, .int x13), (14, .int (h 94 (ix (h 106 (ix (x7 + (2 * x13)))))))]) dX10_times_209 (by decide) rfl ?_
    refine td_iload 12 dX10_times_211 rfl ?_
    obtain ⟨Ks213, K⟩ := K
    have KJ250 : td_J G (d + 7) mX10_times Post 250 [(0, .ref 85), (1, .int x1), (2, .int x2), (3, .int x3), (4, .int x4), (5, .int x5), (6, .int x6), (7, .int x7), (8, .int x8), (9, .int x9), (10, .int x10), (11, .int x11), (12, .int x12), (13, .int x13), (14, .int (h 94 (ix (h 106 (ix (x7 + (2 * x13)))))))] [.int (if x12 = 0 then 0 else if (if 0 ≤ (h 94 (ix (h 106 (ix (x7 + (2 * x13)))))) then (h 94 (ix (h 106 (ix (x7 + (2 * x13)))))) else 120 : Int32) = (h 106 (ix ((x7 + (2 * x13)) + 1))) then 1 else 0 : Int32)] h := by
      refine td_istore (lv2 := [(0, .ref 85), (1, .int x1), (2, .int x2), (3, .int x3), (4, .int x4), (5, .int x5), (6, .int x6), (7, .int x7), (8, .int x8), (9, .int x9), (10, .int x10), (11, .int x11), (12, .int (if x12 = 0 then 0 else if (if 0 ≤ (h 94 (ix (h 106 (ix (x7 + (2 * x13)))))) then (h 94 (ix (h 106 (ix (x7 + (2 * x13)))))) else 120 : Int32) = (h 106 (ix ((x7 + (2 * x13)) + 1))) then 1 else 0 : Int32)), (13, .int x13), (14, .int (h 94 (ix (h 106 (ix (x7 + (2 * x13)))))))]) dX10_times_250 (by decide) rfl ?_
      refine td_iinc 13 (v := x13 + 1) (lv2 := [(0, .ref 85), (1, .int x1), (2, .int x2), (3, .int x3), (4, .int x4), (5, .int x5), (6, .int x6), (7, .int x7), (8, .int x8), (9, .int x9), (10, .int x10), (11, .int x11), (12, .int (if x12 = 0 then 0 else if (if 0 ≤ (h 94 (ix (h 106 (ix (x7 + (2 * x13)))))) then (h 94 (ix (h 106 (ix (x7 + (2 * x13)))))) else 120 : Int32) = (h 106 (ix ((x7 + (2 * x13)) + 1))) then 1 else 0 : Int32)), (13, .int (x13 + 1)), (14, .int (h 94 (ix (h 106 (ix (x7 + (2 * x13)))))))]) dX10_times_252 rfl (congrArg (x13 + ·) (by decide)) (by decide) rfl ?_
      refine td_goto (tgt := 185) dX10_times_255 (by decide) ?_
      refine td_drop (lv2 := [(0, .ref 85), (1, .int x1), (2, .int x2), (3, .int x3), (4, .int x4), (5, .int x5), (6, .int x6), (7, .int x7), (8, .int x8), (9, .int x9), (10, .int x10), (11, .int x11), (12, .int (if x12 = 0 then 0 else if (if 0 ≤ (h 94 (ix (h 106 (ix (x7 + (2 * x13)))))) then (h 94 (ix (h 106 (ix (x7 + (2 * x13)))))) else 120 : Int32) = (h 106 (ix ((x7 + (2 * x13)) + 1))) then 1 else 0 : Int32)), (13, .int (x13 + 1))]) [0, 1, 2, 3, 4, 5, 6, 7, 8, 9, 10, 11, 12, 13] rfl ?_
      exact K
    refine td_if_eq (tgt := 249) dX10_times_213 (by decide) (fun q213 => ?_) (fun q213 => ?_)
    · skip
      refine td_iconst (v := 0) dX10_times_249 (by decide) ?_
      exact td_to KJ250 rfl (by rw [show (if x12 = 0 then 0 else if (if 0 ≤ (h 94 (ix (h 106 (ix (x7 + (2 * x13)))))) then (h 94 (ix (h 106 (ix (x7 + (2 * x13)))))) else 120 : Int32) = (h 106 (ix ((x7 + (2 * x13)) + 1))) then 1 else 0 : Int32) = _ from if_pos q213]) rfl
    · have K := Ks213 q213
      refine td_iload 14 dX10_times_216 rfl ?_
      have KJ228 : td_J G (d + 7) mX10_times Post 228 [(0, .ref 85), (1, .int x1), (2, .int x2), (3, .int x3), (4, .int x4), (5, .int x5), (6, .int x6), (7, .int x7), (8, .int x8), (9, .int x9), (10, .int x10), (11, .int x11), (12, .int x12), (13, .int x13), (14, .int (h 94 (ix (h 106 (ix (x7 + (2 * x13)))))))] [.int (if 0 ≤ (h 94 (ix (h 106 (ix (x7 + (2 * x13)))))) then (h 94 (ix (h 106 (ix (x7 + (2 * x13)))))) else 120 : Int32)] h := by
        refine td_aload_n 0 dX10_times_228 rfl ?_
        refine gf_X10_70 rfl kp_85 dX10_times_229 ?_
        refine td_iload 7 dX10_times_232 rfl ?_
        refine td_iconst (v := 2) dX10_times_234 (by decide) ?_
        refine td_iload 13 dX10_times_235 rfl ?_
        refine td_imul dX10_times_237 ?_
        refine td_iadd dX10_times_238 ?_
        refine td_iconst (v := 1) dX10_times_239 (by decide) ?_
        refine td_iadd dX10_times_240 ?_
        obtain ⟨e241, K⟩ := K
        refine td_ialdc (j := (ix ((x7 + (2 * x13)) + 1))) kp_106 (by decide) e241 rfl dX10_times_241 ?_
        refine td_icmp_ne (tgt := 249) dX10_times_242 (by decide) (fun q242 => ?_) (fun q242 => ?_)
        · skip
          refine td_iconst (v := 0) dX10_times_249 (by decide) ?_
          exact td_to KJ250 rfl (by rw [show (if x12 = 0 then 0 else if (if 0 ≤ (h 94 (ix (h 106 (ix (x7 + (2 * x13)))))) then (h 94 (ix (h 106 (ix (x7 + (2 * x13)))))) else 120 : Int32) = (h 106 (ix ((x7 + (2 * x13)) + 1))) then 1 else 0 : Int32) = _ from (if_neg q213).trans (if_neg q242)]) rfl
        · skip
          refine td_iconst (v := 1) dX10_times_245 (by decide) ?_
          refine td_goto (tgt := 250) dX10_times_246 (by decide) ?_
          exact td_to KJ250 rfl (by rw [show (if x12 = 0 then 0 else if (if 0 ≤ (h 94 (ix (h 106 (ix (x7 + (2 * x13)))))) then (h 94 (ix (h 106 (ix (x7 + (2 * x13)))))) else 120 : Int32) = (h 106 (ix ((x7 + (2 * x13)) + 1))) then 1 else 0 : Int32) = _ from (if_neg q213).trans (if_pos q242)]) rfl
      refine td_if_ge (tgt := 226) dX10_times_218 (by decide) (fun q218 => ?_) (fun q218 => ?_)
      · skip
        refine td_iload 14 dX10_times_226 rfl ?_
        exact td_to KJ228 rfl (by rw [show (if 0 ≤ (h 94 (ix (h 106 (ix (x7 + (2 * x13)))))) then (h 94 (ix (h 106 (ix (x7 + (2 * x13)))))) else 120 : Int32) = _ from if_pos q218]) rfl
      · skip
        refine td_bipush (v := 120) dX10_times_221 (by decide) ?_
        refine td_goto (tgt := 228) dX10_times_223 (by decide) ?_
        exact td_to KJ228 rfl (by rw [show (if 0 ≤ (h 94 (ix (h 106 (ix (x7 + (2 * x13)))))) then (h 94 (ix (h 106 (ix (x7 + (2 * x13)))))) else 120 : Int32) = _ from if_neg q218]) rfl
def fI (p : Nat → Bool) (n : Nat) : Int32 := if fb_ct p n = 0 then -4 else nI (10 * (fa_first p n / 9) + (1 + fa_first p n % 9))
theorem fst_lt {p : Nat → Bool} {n : Nat} (h : fb_ct p n ≠ 0) : fa_first p n < n := by
  apply Decidable.byContradiction
  intro z
  exact h (fb_ct_zero.mpr (fun k hk => fa_first_no p n k (by omega)))
theorem fst_nlt {p : Nat → Bool} {n : Nat} (h : fb_ct p n = 0) : ¬ fa_first p n < n := fun z => by
  have a := fa_first_yes p n z
  rw [fb_ct_zero.mp h _ z] at a
  exact absurd a (by decide)
theorem fa_first_s (p : Nat → Bool) (n : Nat) : fa_first p (n + 1) = if fa_first p n < n then fa_first p n else if p n then n else n + 1 := rfl
theorem fI_s (p : Nat → Bool) (n : Nat) : fI p (n + 1) = if p n = true then (if fb_ct p n = 0 then nI (10 * (n / 9) + (1 + n % 9)) else fI p n) else fI p n := by
  unfold fI
  rw [fb_ct_succ]
  by_cases z : p n = true
  · rw [if_pos z, if_pos z, if_neg (by omega)]
    by_cases y : fb_ct p n = 0
    · rw [if_pos y, fa_first_s, if_neg (fst_nlt y), if_pos z]
    · rw [if_neg y, if_neg y, fa_first_s, if_pos (fst_lt y)]
  · rw [if_neg z, if_neg z, Nat.add_zero]
    by_cases y : fb_ct p n = 0
    · rw [if_pos y, if_pos y]
    · rw [if_neg y, if_neg y, fa_first_s, if_pos (fst_lt y)]
theorem pr_10 {q : Nat} (h : q < 189) : nI (10 * (q / 9) + (1 + q % 9)) / 10 = nI (q / 9) ∧ jrem (nI (10 * (q / 9) + (1 + q % 9))) 10 = nI (1 + q % 9) := (by decide +kernel : ∀ q, q < 189 → nI (10 * (q / 9) + (1 + q % 9)) / 10 = nI (q / 9) ∧ jrem (nI (10 * (q / 9) + (1 + q % 9))) 10 = nI (1 + q % 9)) q h
theorem m_pairs {G : td_G} {d : Nat} {h : td_H} {s : gS} {k f n : Nat} {x2 x5 : Int32} (O : OK s) (I : MI s h) (hk : k < 4) (n8 : n ≤ 8) (hf : f + 2 * n ≤ 16) (hall : allB (gdB s.1 s.2.2.2 k f) n = true) (h2 : td_H) (F2 : FrN h h2) (C2 : rmC s.1 h2) : td_J G (d + 7) mX10_times (mPost (aTim s.1 s.2.2.2 k f n x5) s h) 142 [(0, .ref 85), (1, .int (nI k)), (2, .int x2), (3, .int (nI f)), (4, .int (nI n)), (5, .int x5), (6, .int 0), (7, .int (nI (16 * k + f))), (8, .int 0), (9, .int (-4)), (10, .int 0)] [] h2 := by
  have hn := O.1.n
  generalize hA : agT s.1 s.2.2.2 k f n = ag
  have hag : ∀ pr, ag pr = allB (agW s.1 (pkT s.2.2.2 k f) (tkT s.2.2.2 k f) pr) n := fun pr => by rw [← hA]; rfl
  have row : ∀ h3 : td_H, FrN h h3 → ∀ i, i < 16 → h3 106 (16 * k + i) = s.2.2.2 k (2 + i) := fun h3 F i hi => by
    rw [F 106 _ (by unfold qR; omega)]; exact (I.2.2.2 k hk).2.2 i hi
  have gd : ∀ j, j < n → ∃ p t, p < s.1 1 0 ∧ t ≤ 120 ∧ s.2.2.2 k (2 + (f + 2 * j)) = nI p ∧ s.2.2.2 k (2 + (f + 2 * j + 1)) = nI t ∧ pkT s.2.2.2 k f j = p ∧ tkT s.2.2.2 k f j = t := fun j hj => by
    have g := allB_iff.mp hall j hj
    unfold gdB at g
    rw [Bool.and_eq_true, decide_eq_true_eq, decide_eq_true_eq] at g
    obtain ⟨p, hp, e1, ep, -⟩ := isP_of O.1 g.1
    obtain ⟨t, ht, e2⟩ := in_n (n := 121) (by decide) g.2
    exact ⟨p, t, hp, by omega, e1, e2, by unfold pkT; exact ep, by unfold tkT; rw [e2]; exact ixn (by omega)⟩
  refine td_forH 21 (fun m => [(0, .ref 85), (1, .int (nI k)), (2, .int x2), (3, .int (nI f)), (4, .int (nI n)), (5, .int x5), (6, .int 0), (7, .int (nI (16 * k + f))), (8, .int (nI (fb_ct ag (9 * m)))), (9, .int (fI ag (9 * m))), (10, .int (nI m))]) (fun _ h3 => FrN h h3 ∧ ∃ c', rmC c' h3 ∧ ∀ a b, ¬ (a = 0 ∧ (b = 3 ∨ b = 4)) → c' a b = s.1 a b) rfl ⟨F2, s.1, C2, fun _ _ _ => rfl⟩ (fun m hm h3 hI ih => ?_) (fun h3 hI => ?_)
  · refine gX10_times_142 ⟨fun y => absurd (lt_of (a := 20) y) (by omega), fun _ => ?_⟩
    refine td_forH 9 (fun j => [(0, .ref 85), (1, .int (nI k)), (2, .int x2), (3, .int (nI f)), (4, .int (nI n)), (5, .int x5), (6, .int 0), (7, .int (nI (16 * k + f))), (8, .int (nI (fb_ct ag (9 * m + j)))), (9, .int (fI ag (9 * m + j))), (10, .int (nI m)), (11, .int (nI (1 + j)))]) (fun _ h3 => FrN h h3 ∧ ∃ c', rmC c' h3 ∧ ∀ a b, ¬ (a = 0 ∧ (b = 3 ∨ b = 4)) → c' a b = s.1 a b) rfl hI (fun j hj h4 hI4 ih4 => ?_) (fun h4 hI4 => ?_)
    · obtain ⟨hF, c', hC, hc⟩ := hI4
      have dm : (9 * m + j) / 9 = m := by omega
      have mm : (9 * m + j) % 9 = j := by omega
      have C1 : rmC (cfgE s.1 (9 * m + j)) (hu (hu h4 87 3 (nI m)) 87 4 (nI (1 + j))) := hC.sets (cfgE_s O.1 (by omega)) (fun a b z => by rw [cfgE_o _ _ _ _ (by omega), hc a b (by omega)]) (fun i hi => by
        rw [hu_app, hu_app]
        unfold cfgE
        rw [dm, mm]
        by_cases e4 : i = 4
        · subst e4; rw [if_pos ⟨rfl, rfl⟩, if_neg (by decide), if_pos ⟨rfl, rfl⟩]
        · rw [if_neg (fun w => e4 w.2)]
          by_cases e3 : i = 3
          · subst e3; rw [if_pos ⟨rfl, rfl⟩, if_pos ⟨rfl, rfl⟩]
          · rw [if_neg (fun w => e3 w.2), if_neg (fun w => e3 w.2), if_neg (fun w => e4 w.2), hC.2.1 i hi, hc 0 i (fun w => by omega)]) (fun a b z => by rw [hu_app, if_neg (fun w => z w.1), hu_app, if_neg (fun w => z w.1)])
      refine gX10_times_152 (c := cfgE s.1 (9 * m + j)) ⟨fun y => absurd (lt_of (a := 9) y) (by omega), fun _ => ⟨C1, fun h5 h55 => ?_⟩⟩
      have F5 : FrN h h5 := hF.tr (fun a b z => by rw [h55.1 a b (fun w => z (by unfold simP at w; unfold qR; omega)), hu_app, if_neg (fun w => z (by unfold qR; omega)), hu_app, if_neg (fun w => z (by unfold qR; omega))])
      have r5 := row h5 F5
      have f94 : ∀ p, p < s.1 1 0 → h5 94 p = nn (sRun (cfgE s.1 (9 * m + j)) 120 3 p) := fun p hp => by rw [← tau_o (cfgE s.1 (9 * m + j)) 120 3 p (by decide)]; exact (h55.2.1 p (by omega)).2.2.2.1
      have en : ∀ p, p < s.1 1 0 → sRun (cfgE s.1 (9 * m + j)) 120 3 p ≤ 120 := fun p hp => end_le (by rw [cfgE_o _ _ _ _ (by decide)]; exact hn) (by rw [cfgE_o _ _ _ _ (by decide)]; exact hp)
      refine td_for n (fun i => [(0, .ref 85), (1, .int (nI k)), (2, .int x2), (3, .int (nI f)), (4, .int (nI n)), (5, .int x5), (6, .int 0), (7, .int (nI (16 * k + f))), (8, .int (nI (fb_ct ag (9 * m + j)))), (9, .int (fI ag (9 * m + j))), (10, .int (nI m)), (11, .int (nI (1 + j))), (12, .int (b2i (allB (agW s.1 (pkT s.2.2.2 k f) (tkT s.2.2.2 k f) (9 * m + j)) i = true))), (13, .int (nI i))]) (fun _ => h5) rfl rfl (fun i hi ih5 => ?_) ?_
      · obtain ⟨p, t, hp, ht, e1, e2, e3, e4⟩ := gd i hi
        refine gX10_times_185 ?_
        have x1 : nI (16 * k + f) + 2 * nI i = nI (16 * k + (f + 2 * i)) := by rw [show (2 : Int32) = nI 2 from rfl, pk_mul, nI_add, Nat.add_assoc]
        have x2 : nI (16 * k + (f + 2 * i)) + 1 = nI (16 * k + (f + 2 * i + 1)) := by rw [nI_1]; rfl
        rw [x1, x2, ixn (i := 16 * k + (f + 2 * i)) (by omega), ixn (i := 16 * k + (f + 2 * i + 1)) (by omega), r5 _ (by omega), r5 _ (by omega), e1, e2, ixn (i := p) (by omega), f94 p hp, nn_120 (en p hp)]
        refine ⟨fun y => absurd (le_of y) (by omega), fun _ => ⟨vp_in_nI (by omega) (by decide), vp_in_nI (by omega) (by decide), fun _ => ⟨vp_in_nI (by omega) (by decide), trivial⟩, td_to ih5 ?_ rfl rfl⟩⟩
        rw [nI_1]
        have ev : (if b2i (allB (agW s.1 (pkT s.2.2.2 k f) (tkT s.2.2.2 k f) (9 * m + j)) i = true) = 0 then 0 else if nI (sRun (cfgE s.1 (9 * m + j)) 120 3 p) = nI t then 1 else 0 : Int32) = b2i (allB (agW s.1 (pkT s.2.2.2 k f) (tkT s.2.2.2 k f) (9 * m + j)) (i + 1) = true) := by
          have hen := en p hp
          by_cases a1 : allB (agW s.1 (pkT s.2.2.2 k f) (tkT s.2.2.2 k f) (9 * m + j)) i = true
          · rw [if_neg (fun z => bz z a1)]
            by_cases a2 : sRun (cfgE s.1 (9 * m + j)) 120 3 p = t
            · rw [if_pos (by rw [a2]), b2i_t ((allB_s _ _).mpr ⟨a1, ?_⟩)]
              unfold agW
              rw [e3, e4, decide_eq_true_eq]; exact a2
            · rw [if_neg (fun z => a2 (eq_of z)), b2i_f (fun z => ?_)]
              have z2 := ((allB_s _ _).mp z).2
              unfold agW at z2
              rw [e3, e4, decide_eq_true_eq] at z2
              exact a2 z2
          · rw [if_pos (b2i_f a1), b2i_f (fun z => a1 ((allB_s _ _).mp z).1)]
        rw [ev]
      · refine gX10_times_185 ⟨fun _ => ?_, fun y => absurd (nle_of y) (by omega)⟩
        rw [← hag]
        refine td_to (ih4 h5 ⟨F5, cfgE s.1 (9 * m + j), h55.1.C C1, fun a b z => by unfold cfgE; rw [if_neg (fun w => z (by omega)), if_neg (fun w => z (by omega))]⟩) ?_ rfl rfl
        have e8 : nI (fb_ct ag (9 * m + j)) + (if b2i (ag (9 * m + j) = true) = 0 then 0 else 1 : Int32) = nI (fb_ct ag (9 * m + j + 1)) := by
          rw [fb_ct_succ]
          by_cases z : ag (9 * m + j) = true
          · rw [if_neg (fun y => bz y z), if_pos z, nI_1]
          · rw [if_pos (b2i_f z), if_neg z, show (0 : Int32) = nI 0 from rfl, nI_add]
        have hct : fb_ct ag (9 * m + j) ≤ 9 * m + j := fb_ct_le _ _
        have e9 : (if b2i (ag (9 * m + j) = true) = 0 then fI ag (9 * m + j) else if nI (fb_ct ag (9 * m + j)) = 0 then 10 * nI m + nI (1 + j) else fI ag (9 * m + j) : Int32) = fI ag (9 * m + j + 1) := by
          rw [fI_s, dm, mm, show (10 : Int32) = nI 10 from rfl, pk_mul, nI_add]
          by_cases z : ag (9 * m + j) = true
          · rw [if_neg (fun y => bz y z), if_pos z]
            by_cases y : fb_ct ag (9 * m + j) = 0
            · rw [if_pos (by rw [y]; rfl), if_pos y]
            · rw [if_neg (show ¬ nI (fb_ct ag (9 * m + j)) = 0 from fun w => y (eq_of (b := 0) w)), if_neg y]
          · rw [if_pos (b2i_f z), if_neg z]
        rw [e8, e9, nI_1]
        rfl
    · refine gX10_times_152 (c := s.1) ⟨fun _ => ?_, fun y => absurd (nlt_of (a := 9) (b := 1 + 9) y) (by omega)⟩
      refine td_to (ih h4 hI4) ?_ rfl rfl
      rw [nI_1]
      rfl
  · refine gX10_times_142 ⟨fun _ => ⟨?_, I.q hI.1⟩, fun y => absurd (nlt_of (a := 20) (b := 21) y) (by omega)⟩
    unfold aTim
    rw [hA]
    show some (Value.int (if x5 = 0 then nI (fb_ct ag 189) else if nI (fb_ct ag 189) = 0 then -4 else if x5 = 1 then fI ag 189 / 10 else jrem (fI ag 189) 10)) = _
    have hct : fb_ct ag 189 ≤ 189 := fb_ct_le _ _
    by_cases y5 : x5 = 0
    · rw [if_pos y5, if_pos y5]
    · rw [if_neg y5, if_neg y5]
      by_cases z : fb_ct ag 189 = 0
      · rw [if_pos (by rw [z]; rfl), if_pos z]
      · obtain ⟨p1, p2⟩ := pr_10 (fst_lt z)
        have ef : fI ag 189 = nI (10 * (fa_first ag 189 / 9) + (1 + fa_first ag 189 % 9)) := by unfold fI; rw [if_neg z]
        rw [if_neg (show ¬ nI (fb_ct ag 189) = 0 from fun w => z (eq_of (b := 0) w)), if_neg z, ef, p1, p2]
theorem M_times {G : td_G} {d : Nat} {h : td_H} {s : gS} (x1 x2 x3 x4 x5 : Int32) (O : OK s) (I : MI s h) : (okTi x1 x2 x4 x5 → rfS s.2.2.2 x1 x2 x3 (2 * x4) = 0 → td_C G (d + 7) mX10_times [.ref 85, .int x1, .int x2, .int x3, .int x4, .int x5] h (mPost (if allB (gdB s.1 s.2.2.2 (ix x1) (ix x3)) (ix x4) = true then aTim s.1 s.2.2.2 (ix x1) (ix x3) (ix x4) x5 else -2) s h)) ∧ (okTi x1 x2 x4 x5 → ¬ rfS s.2.2.2 x1 x2 x3 (2 * x4) = 0 → td_C G (d + 7) mX10_times [.ref 85, .int x1, .int x2, .int x3, .int x4, .int x5] h (mPost (rfS s.2.2.2 x1 x2 x3 (2 * x4)) s h)) ∧ (¬ okTi x1 x2 x4 x5 → td_C G (d + 7) mX10_times [.ref 85, .int x1, .int x2, .int x3, .int x4, .int x5] h (mPost (-1) s h)) := by
  have e9 : h 86 9 = nI (s.1 1 0) := I.1.2.1
  have hn := O.1.n
  have bad : (some (Value.int (-1)) = some (.int (-1)) ∧ MI s h ∧ FD h h) := ⟨rfl, I, FD.rf h⟩
  refine ⟨fun ok h0 => ?_, fun ok h0 => ?_, fun nk => ?_⟩
  · obtain ⟨o1, o2, o4, o5⟩ := ok
    obtain ⟨k, hk, rfl⟩ := in_n (n := 4) (by decide) o1
    obtain ⟨n, n1, n8, rfl, en, v9⟩ := ty_in o4
    have ek : ix (nI k) = k := ixn (by omega)
    obtain ⟨q1, q2, q3⟩ := I.2.2.2 k hk
    obtain ⟨w1, N, hN, eN⟩ := O.2.2.2 k hk
    unfold rfS at h0
    have e2n : 2 * nI n = nI (2 * n) := by rw [show (2 : Int32) = nI 2 from rfl, pk_mul]
    rw [ek] at h0 ⊢
    rw [en]
    obtain ⟨f, rfl, hf⟩ := rf_in (n := 2 * n) hN (by omega) (by rw [← eN, ← e2n]; exact h0)
    rw [ixn (i := f) (by omega)]
    refine td_entry rfl (Nat.le_of_ble_eq_true rfl) rfl (gX10_times_0 ⟨fun y => absurd ⟨o1, o2⟩ (bz y), fun _ => ⟨fun y => absurd (ty_64.mpr o4) (bz y), fun _ => ⟨fun _ => ⟨vp_in_nI hk (by decide), ?_⟩, fun y => absurd (iq 2 o5) (bz y)⟩⟩⟩)
    rw [ek, q1, q2, h0, ix_16 hk (show f < 16 by omega)]
    refine ⟨w1, o2, fun _ => ?_, fun y => absurd (by decide) y⟩
    have loop : ∀ m j, j + m = n → allB (gdB s.1 s.2.2.2 k f) j = true → td_J G (d + 7) mX10_times (mPost (if allB (gdB s.1 s.2.2.2 k f) n = true then aTim s.1 s.2.2.2 k f n x5 else -2) s h) 68 [(0, .ref 85), (1, .int (nI k)), (2, .int x2), (3, .int (nI f)), (4, .int (nI n)), (5, .int x5), (6, .int 0), (7, .int (nI (16 * k + f))), (8, .int (nI j))] [] h := by
      intro m
      induction m with
      | zero =>
        intro j hj hall
        rw [Nat.add_zero] at hj
        subst hj
        rw [if_pos hall]
        refine gX10_times_68 (c := s.1) ⟨fun _ => ⟨O.1, O.2.1, I.1, fun h2 hh => ?_⟩, fun y => absurd (nle_of y) (by omega)⟩
        exact m_pairs O I hk n8 (by omega) hall h2 hh.1.N hh.2
      | succ m ih =>
        intro j hj hall
        refine gX10_times_68 (c := s.1) ?_
        have x1 : nI (16 * k + f) + 2 * nI j = nI (16 * k + (f + 2 * j)) := by rw [show (2 : Int32) = nI 2 from rfl, pk_mul, nI_add, Nat.add_assoc]
        have x2 : nI (16 * k + (f + 2 * j)) + 1 = nI (16 * k + (f + 2 * j + 1)) := by rw [nI_1]; rfl
        rw [x1, x2, ixn (i := 16 * k + (f + 2 * j)) (by omega), ixn (i := 16 * k + (f + 2 * j + 1)) (by omega), q3 _ (by omega), q3 _ (by omega), e9]
        refine ⟨fun y => absurd (le_of y) (by omega), fun _ => ⟨vp_in_nI (by omega) (by decide), fun y => ?_, fun y => ⟨vp_in_nI (by omega) (by decide), fun z => ?_, fun z => ?_⟩⟩⟩
        · have nb : ¬ allB (gdB s.1 s.2.2.2 k f) n = true := fun w => by
            have gd := allB_iff.mp w j (by omega)
            unfold gdB at gd
            rw [Bool.and_eq_true, decide_eq_true_eq, decide_eq_true_eq] at gd
            exact bz y ((in64b (by omega)).mpr gd.1)
          rw [if_neg nb]
          exact ⟨rfl, I, FD.rf h⟩
        · refine td_to (ih (j + 1) (by omega) ((allB_s _ _).mpr ⟨hall, ?_⟩)) (by rw [nI_1]) rfl rfl
          unfold gdB
          rw [Bool.and_eq_true, decide_eq_true_eq, decide_eq_true_eq]
          exact ⟨(in64b (by omega)).mp (bnz y), iqn 120 (bnz z)⟩
        · have nb : ¬ allB (gdB s.1 s.2.2.2 k f) n = true := fun w => by
            have gd := allB_iff.mp w j (by omega)
            unfold gdB at gd
            rw [Bool.and_eq_true, decide_eq_true_eq, decide_eq_true_eq] at gd
            exact bz z (iq 120 gd.2)
          rw [if_neg nb]
          exact ⟨rfl, I, FD.rf h⟩
    exact loop n 0 (Nat.zero_add n) rfl
  · obtain ⟨o1, o2, o4, o5⟩ := ok
    obtain ⟨k, hk, rfl⟩ := in_n (n := 4) (by decide) o1
    have ek : ix (nI k) = k := ixn (by omega)
    obtain ⟨q1, q2, q3⟩ := I.2.2.2 k hk
    obtain ⟨w1, N, hN, eN⟩ := O.2.2.2 k hk
    unfold rfS at h0 ⊢
    rw [ek] at h0 ⊢
    refine td_entry rfl (Nat.le_of_ble_eq_true rfl) rfl (gX10_times_0 ⟨fun y => absurd ⟨o1, o2⟩ (bz y), fun _ => ⟨fun y => absurd (ty_64.mpr o4) (bz y), fun _ => ⟨fun _ => ⟨vp_in_nI hk (by decide), ?_⟩, fun y => absurd (iq 2 o5) (bz y)⟩⟩⟩)
    rw [ek, q1, q2]
    exact ⟨w1, o2, fun y => absurd (rfI_nn.mp y) h0, fun _ => ⟨rfl, I, FD.rf h⟩⟩
  · exact td_entry rfl (Nat.le_of_ble_eq_true rfl) rfl (gX10_times_0 ⟨fun _ => bad, fun y1 => ⟨fun _ => bad, fun y2 => ⟨fun y3 => absurd ⟨(bnz y1).1, (bnz y1).2, ty_64.mp (bnz y2), iqn 2 (bnz y3)⟩ nk, fun _ => bad⟩⟩⟩)
