set_option maxRecDepth 20000 in
set_option maxHeartbeats 4000000 in
theorem gX10_in_0 {G : td_G} {d : Nat} {Post : td_P} {w0 w2 w4 : Int64} {h : td_H} (K : ((if (lg_cmp w0 w2) < 0 then 0 else if 0 < (lg_cmp w0 w4) then 0 else 1 : Int32) = 0 ∨ (if (lg_cmp w0 w2) < 0 then 0 else if 0 < (lg_cmp w0 w4) then 0 else 1 : Int32) = 1) ∧ Post (some (.int (if (lg_cmp w0 w2) < 0 then 0 else if 0 < (lg_cmp w0 w4) then 0 else 1 : Int32))) h) : td_J G d mX10_in Post 0 [(0, .long w0), (2, .long w2), (4, .long w4)] [] h := by
  refine td_lload_n 0 dX10_in_0 rfl ?_
  refine td_lload_n 1 dX10_in_1 rfl ?_
  refine td_lcmp dX10_in_2 ?_
  have KJ18 : td_J G d mX10_in Post 18 [(0, .long w0), (2, .long w2), (4, .long w4)] [.int (if (lg_cmp w0 w2) < 0 then 0 else if 0 < (lg_cmp w0 w4) then 0 else 1 : Int32)] h := by
    obtain ⟨e18, K⟩ := K
    exact td_zreturn rfl (td_nb e18) dX10_in_18 K
  refine td_if_lt (tgt := 17) dX10_in_3 (by decide) (fun q3 => ?_) (fun q3 => ?_)
  · skip
    refine td_iconst (v := 0) dX10_in_17 (by decide) ?_
    exact td_to KJ18 rfl (by rw [show (if (lg_cmp w0 w2) < 0 then 0 else if 0 < (lg_cmp w0 w4) then 0 else 1 : Int32) = _ from if_pos q3]) rfl
  · skip
    refine td_lload_n 0 dX10_in_6 rfl ?_
    refine td_lload 2 dX10_in_7 rfl ?_
    refine td_lcmp dX10_in_9 ?_
    refine td_if_gt (tgt := 17) dX10_in_10 (by decide) (fun q10 => ?_) (fun q10 => ?_)
    · skip
      refine td_iconst (v := 0) dX10_in_17 (by decide) ?_
      exact td_to KJ18 rfl (by rw [show (if (lg_cmp w0 w2) < 0 then 0 else if 0 < (lg_cmp w0 w4) then 0 else 1 : Int32) = _ from (if_neg q3).trans (if_pos q10)]) rfl
    · skip
      refine td_iconst (v := 1) dX10_in_13 (by decide) ?_
      refine td_goto (tgt := 18) dX10_in_14 (by decide) ?_
      exact td_to KJ18 rfl (by rw [show (if (lg_cmp w0 w2) < 0 then 0 else if 0 < (lg_cmp w0 w4) then 0 else 1 : Int32) = _ from (if_neg q3).trans (if_neg q10)]) rfl
set_option maxRecDepth 20000 in
set_option maxHeartbeats 4000000 in
theorem gX10_has_0 {G : td_G} {d : Nat} {Post : td_P} {x0 x1 : Int32} {h : td_H} (K : ((if ((jshr x0 x1) &&& 1) = 1 then 1 else 0 : Int32) = 0 ∨ (if ((jshr x0 x1) &&& 1) = 1 then 1 else 0 : Int32) = 1) ∧ Post (some (.int (if ((jshr x0 x1) &&& 1) = 1 then 1 else 0 : Int32))) h) : td_J G d mX10_has Post 0 [(0, .int x0), (1, .int x1)] [] h := by
  refine td_iload_n 0 dX10_has_0 rfl ?_
  refine td_iload_n 1 dX10_has_1 rfl ?_
  refine td_ishr dX10_has_2 ?_
  refine td_iconst (v := 1) dX10_has_3 (by decide) ?_
  refine td_iand dX10_has_4 ?_
  refine td_iconst (v := 1) dX10_has_5 (by decide) ?_
  have KJ14 : td_J G d mX10_has Post 14 [(0, .int x0), (1, .int x1)] [.int (if ((jshr x0 x1) &&& 1) = 1 then 1 else 0 : Int32)] h := by
    obtain ⟨e14, K⟩ := K
    exact td_zreturn rfl (td_nb e14) dX10_has_14 K
  refine td_icmp_ne (tgt := 13) dX10_has_6 (by decide) (fun q6 => ?_) (fun q6 => ?_)
  · skip
    refine td_iconst (v := 0) dX10_has_13 (by decide) ?_
    exact td_to KJ14 rfl (by rw [show (if ((jshr x0 x1) &&& 1) = 1 then 1 else 0 : Int32) = _ from if_neg q6]) rfl
  · skip
    refine td_iconst (v := 1) dX10_has_9 (by decide) ?_
    refine td_goto (tgt := 14) dX10_has_10 (by decide) ?_
    exact td_to KJ14 rfl (by rw [show (if ((jshr x0 x1) &&& 1) = 1 then 1 else 0 : Int32) = _ from if_pos q6]) rfl
set_option maxRecDepth 20000 in
set_option maxHeartbeats 4000000 in
theorem gX10_of_0 {G : td_G} {d : Nat} {Post : td_P} {x1 x2 : Int32} {h : td_H} (K : vp_in ((10 + (3 * x1)) + x2) 46 ∧ (Post (some (.int (h 86 (ix ((10 + (3 * x1)) + x2))))) h)) : td_J G d mX10_of Post 0 [(0, .ref 85), (1, .int x1), (2, .int x2)] [] h := by
  refine td_aload_n 0 dX10_of_0 rfl ?_
  refine gf_X10_7 rfl kp_85 dX10_of_1 ?_
  refine td_bipush (v := 10) dX10_of_4 (by decide) ?_
  refine td_iconst (v := 3) dX10_of_6 (by decide) ?_
  refine td_iload_n 1 dX10_of_7 rfl ?_
  refine td_imul dX10_of_8 ?_
  refine td_iadd dX10_of_9 ?_
  refine td_iload_n 2 dX10_of_10 rfl ?_
  refine td_iadd dX10_of_11 ?_
  obtain ⟨e12, K⟩ := K
  refine td_ialdc (j := (ix ((10 + (3 * x1)) + x2))) kp_86 (by decide) e12 rfl dX10_of_12 ?_
  exact td_ireturn rfl dX10_of_13 K
theorem c_in {G : td_G} {d : Nat} {h : td_H} (a b c : Int64) : td_C G d mX10_in [.long a, .long b, .long c] h (eR (b2i (b ≤ a ∧ a ≤ c)) h) := by
  refine td_entry rfl (Nat.le_of_ble_eq_true rfl) rfl (gX10_in_0 ?_)
  have e : (if (lg_cmp a b) < 0 then 0 else if 0 < (lg_cmp a c) then 0 else 1 : Int32) = b2i (b ≤ a ∧ a ≤ c) := by
    unfold b2i
    by_cases q1 : a < b
    · rw [if_pos ((lg_cmp_lt a b).mpr q1), if_neg (fun z => by rw [fa_lt64] at q1; rw [fa_le64, fa_le64] at z; omega)]
    · rw [if_neg (fun z => q1 ((lg_cmp_lt a b).mp z))]
      by_cases q2 : c < a
      · rw [if_pos ((lg_cmp_gt a c).mpr q2), if_neg (fun z => by rw [fa_lt64] at q2; rw [fa_le64, fa_le64] at z; omega)]
      · rw [if_neg (fun z => q2 ((lg_cmp_gt a c).mp z)), if_pos (by rw [fa_lt64] at q1 q2; rw [fa_le64, fa_le64]; omega)]
  rw [e]
  exact ⟨b2i_01 _, rfl, rfl⟩
theorem c_of {G : td_G} {d : Nat} {h : td_H} (x y : Int32) (e : vp_in ((10 + (3 * x)) + y) 46) : td_C G d mX10_of [.ref 85, .int x, .int y] h (eR (h 86 (ix ((10 + (3 * x)) + y))) h) := by
  exact td_entry rfl (Nat.le_of_ble_eq_true rfl) rfl (gX10_of_0 ⟨e, rfl, rfl⟩)
set_option maxRecDepth 20000 in
set_option maxHeartbeats 4000000 in
theorem gX10_sizeOf_0 {G : td_G} {d : Nat} {Post : td_P} {x0 : Int32} {h : td_H} (K : Post (some (.int (if x0 = 1 then 2 else if x0 = 2 then 3 else 1 : Int32))) h) : td_J G d mX10_sizeOf Post 0 [(0, .int x0)] [] h := by
  refine td_iload_n 0 dX10_sizeOf_0 rfl ?_
  refine td_iconst (v := 1) dX10_sizeOf_1 (by decide) ?_
  have KJ19 : td_J G d mX10_sizeOf Post 19 [(0, .int x0)] [.int (if x0 = 1 then 2 else if x0 = 2 then 3 else 1 : Int32)] h := by
    exact td_ireturn rfl dX10_sizeOf_19 K
  refine td_icmp_ne (tgt := 9) dX10_sizeOf_2 (by decide) (fun q2 => ?_) (fun q2 => ?_)
  · skip
    refine td_iload_n 0 dX10_sizeOf_9 rfl ?_
    refine td_iconst (v := 2) dX10_sizeOf_10 (by decide) ?_
    refine td_icmp_ne (tgt := 18) dX10_sizeOf_11 (by decide) (fun q11 => ?_) (fun q11 => ?_)
    · skip
      refine td_iconst (v := 1) dX10_sizeOf_18 (by decide) ?_
      exact td_to KJ19 rfl (by rw [show (if x0 = 1 then 2 else if x0 = 2 then 3 else 1 : Int32) = _ from (if_neg q2).trans (if_neg q11)]) rfl
    · skip
      refine td_iconst (v := 3) dX10_sizeOf_14 (by decide) ?_
      refine td_goto (tgt := 19) dX10_sizeOf_15 (by decide) ?_
      exact td_to KJ19 rfl (by rw [show (if x0 = 1 then 2 else if x0 = 2 then 3 else 1 : Int32) = _ from (if_neg q2).trans (if_pos q11)]) rfl
  · skip
    refine td_iconst (v := 2) dX10_sizeOf_5 (by decide) ?_
    refine td_goto (tgt := 19) dX10_sizeOf_6 (by decide) ?_
    exact td_to KJ19 rfl (by rw [show (if x0 = 1 then 2 else if x0 = 2 then 3 else 1 : Int32) = _ from if_pos q2]) rfl
set_option maxRecDepth 20000 in
set_option maxHeartbeats 4000000 in
theorem gX10_pushOf_0 {G : td_G} {d : Nat} {Post : td_P} {x0 : Int32} {h : td_H} (K : Post (some (.int (if x0 = 1 then 1 else if x0 = 2 then 1 else if x0 = 3 then 0 else if x0 = 4 then 4 else 2 : Int32))) h) : td_J G d mX10_pushOf Post 0 [(0, .int x0)] [] h := by
  refine td_iload_n 0 dX10_pushOf_0 rfl ?_
  refine td_iconst (v := 1) dX10_pushOf_1 (by decide) ?_
  have KJ33 : td_J G d mX10_pushOf Post 33 [(0, .int x0)] [.int (if x0 = 1 then 1 else if x0 = 2 then 1 else if x0 = 3 then 0 else if x0 = 4 then 4 else 2 : Int32)] h := by
    exact td_ireturn rfl dX10_pushOf_33 K
  refine td_icmp_eq (tgt := 10) dX10_pushOf_2 (by decide) (fun q2 => ?_) (fun q2 => ?_)
  · skip
    refine td_iconst (v := 1) dX10_pushOf_10 (by decide) ?_
    refine td_goto (tgt := 33) dX10_pushOf_11 (by decide) ?_
    exact td_to KJ33 rfl (by rw [show (if x0 = 1 then 1 else if x0 = 2 then 1 else if x0 = 3 then 0 else if x0 = 4 then 4 else 2 : Int32) = _ from if_pos q2]) rfl
  · skip
    refine td_iload_n 0 dX10_pushOf_5 rfl ?_
    refine td_iconst (v := 2) dX10_pushOf_6 (by decide) ?_
    refine td_icmp_ne (tgt := 14) dX10_pushOf_7 (by decide) (fun q7 => ?_) (fun q7 => ?_)
    · skip
      refine td_iload_n 0 dX10_pushOf_14 rfl ?_
      refine td_iconst (v := 3) dX10_pushOf_15 (by decide) ?_
      refine td_icmp_ne (tgt := 23) dX10_pushOf_16 (by decide) (fun q16 => ?_) (fun q16 => ?_)
      · skip
        refine td_iload_n 0 dX10_pushOf_23 rfl ?_
        refine td_iconst (v := 4) dX10_pushOf_24 (by decide) ?_
        refine td_icmp_ne (tgt := 32) dX10_pushOf_25 (by decide) (fun q25 => ?_) (fun q25 => ?_)
        · skip
          refine td_iconst (v := 2) dX10_pushOf_32 (by decide) ?_
          exact td_to KJ33 rfl (by rw [show (if x0 = 1 then 1 else if x0 = 2 then 1 else if x0 = 3 then 0 else if x0 = 4 then 4 else 2 : Int32) = _ from (if_neg q2).trans ((if_neg q7).trans ((if_neg q16).trans (if_neg q25)))]) rfl
        · skip
          refine td_iconst (v := 4) dX10_pushOf_28 (by decide) ?_
          refine td_goto (tgt := 33) dX10_pushOf_29 (by decide) ?_
          exact td_to KJ33 rfl (by rw [show (if x0 = 1 then 1 else if x0 = 2 then 1 else if x0 = 3 then 0 else if x0 = 4 then 4 else 2 : Int32) = _ from (if_neg q2).trans ((if_neg q7).trans ((if_neg q16).trans (if_pos q25)))]) rfl
      · skip
        refine td_iconst (v := 0) dX10_pushOf_19 (by decide) ?_
        refine td_goto (tgt := 33) dX10_pushOf_20 (by decide) ?_
        exact td_to KJ33 rfl (by rw [show (if x0 = 1 then 1 else if x0 = 2 then 1 else if x0 = 3 then 0 else if x0 = 4 then 4 else 2 : Int32) = _ from (if_neg q2).trans ((if_neg q7).trans (if_pos q16))]) rfl
    · skip
      refine td_iconst (v := 1) dX10_pushOf_10 (by decide) ?_
      refine td_goto (tgt := 33) dX10_pushOf_11 (by decide) ?_
      exact td_to KJ33 rfl (by rw [show (if x0 = 1 then 1 else if x0 = 2 then 1 else if x0 = 3 then 0 else if x0 = 4 then 4 else 2 : Int32) = _ from (if_neg q2).trans (if_pos q7)]) rfl
set_option maxRecDepth 20000 in
set_option maxHeartbeats 4000000 in
theorem gX10_isPerson_0 {G : td_G} {d : Nat} {Post : td_P} {x1 : Int32} {h : td_H} (K : ((b2i (0 ≤ x1.toInt64 ∧ x1.toInt64 ≤ (((h 86 9) - 1).toInt64))) = 0 ∨ (b2i (0 ≤ x1.toInt64 ∧ x1.toInt64 ≤ (((h 86 9) - 1).toInt64))) = 1) ∧ Post (some (.int (b2i (0 ≤ x1.toInt64 ∧ x1.toInt64 ≤ (((h 86 9) - 1).toInt64))))) h) : td_J G (d + 1) mX10_isPerson Post 0 [(0, .ref 85), (1, .int x1)] [] h := by
  refine td_iload_n 1 dX10_isPerson_0 rfl ?_
  refine td_i2l dX10_isPerson_1 ?_
  refine td_lconst (v := 0) dX10_isPerson_2 (by decide) ?_
  refine td_aload_n 0 dX10_isPerson_3 rfl ?_
  refine gf_X10_7 rfl kp_85 dX10_isPerson_4 ?_
  refine td_bipush (v := 9) dX10_isPerson_7 (by decide) ?_
  refine td_ialdc (j := 9) kp_86 (by decide) (by unfold vp_in; decide) (by decide) dX10_isPerson_9 ?_
  refine td_iconst (v := 1) dX10_isPerson_10 (by decide) ?_
  refine td_isub dX10_isPerson_11 ?_
  refine td_i2l dX10_isPerson_12 ?_
  refine cl_X10_75 rfl dX10_isPerson_13 (Nat.le_of_ble_eq_true rfl) (c_in x1.toInt64 0 (((h 86 9) - 1).toInt64)) (eR_k ?_)
  refine td_eqs (st2 := [.int (b2i (0 ≤ x1.toInt64 ∧ x1.toInt64 ≤ (((h 86 9) - 1).toInt64)))]) rfl ?_
  obtain ⟨e16, K⟩ := K
  exact td_zreturn rfl (td_nb e16) dX10_isPerson_16 K
set_option maxRecDepth 20000 in
set_option maxHeartbeats 4000000 in
theorem gX10_shareOf_0 {G : td_G} {d : Nat} {Post : td_P} {x1 x2 x3 : Int32} {h : td_H} (K : ¬ h 87 0 = 0 ∧ (td_J G (d + 1) mX10_shareOf Post 17 [(0, .ref 85), (1, .int x1), (2, .int x2), (3, .int x3), (4, .int (12 / (h 87 0))), (5, .int 0), (6, .int 0)] [] h)) : td_J G (d + 1) mX10_shareOf Post 0 [(0, .ref 85), (1, .int x1), (2, .int x2), (3, .int x3)] [] h := by
  refine td_bipush (v := 12) dX10_shareOf_0 (by decide) ?_
  refine td_aload_n 0 dX10_shareOf_2 rfl ?_
  refine gf_X10_13 rfl kp_85 dX10_shareOf_3 ?_
  refine td_iconst (v := 0) dX10_shareOf_6 (by decide) ?_
  refine td_ialdc (j := 0) kp_87 (by decide) (by unfold vp_in; decide) (by decide) dX10_shareOf_7 ?_
  obtain ⟨e8, K⟩ := K
  refine td_idiv dX10_shareOf_8 e8 ?_
  refine td_istore (lv2 := [(0, .ref 85), (1, .int x1), (2, .int x2), (3, .int x3), (4, .int (12 / (h 87 0)))]) dX10_shareOf_9 (by decide) rfl ?_
  refine td_iconst (v := 0) dX10_shareOf_11 (by decide) ?_
  refine td_istore (lv2 := [(0, .ref 85), (1, .int x1), (2, .int x2), (3, .int x3), (4, .int (12 / (h 87 0))), (5, .int 0)]) dX10_shareOf_12 (by decide) rfl ?_
  refine td_iconst (v := 0) dX10_shareOf_14 (by decide) ?_
  refine td_istore (lv2 := [(0, .ref 85), (1, .int x1), (2, .int x2), (3, .int x3), (4, .int (12 / (h 87 0))), (5, .int 0), (6, .int 0)]) dX10_shareOf_15 (by decide) rfl ?_
  exact K
set_option maxRecDepth 20000 in
set_option maxHeartbeats 4000000 in
theorem gX10_shareOf_17 {G : td_G} {d : Nat} {Post : td_P} {x1 x2 x3 x4 x5 x6 : Int32} {h : td_H} (K : (x4 ≤ x6 → (Post (some (.int x5)) h)) ∧ (¬ x4 ≤ x6 → td_J G (d + 1) mX10_shareOf Post 17 [(0, .ref 85), (1, .int x1), (2, .int x2), (3, .int x3), (4, .int x4), (5, .int (x5 + (if (b2i (((6 * x2).toInt64) ≤ ((jrem ((x3 + (x1 * x4)) + x6) 12).toInt64) ∧ ((jrem ((x3 + (x1 * x4)) + x6) 12).toInt64) ≤ (((6 * x2) + 2).toInt64))) = 0 then 0 else 1 : Int32))), (6, .int (x6 + 1))] [] h)) : td_J G (d + 1) mX10_shareOf Post 17 [(0, .ref 85), (1, .int x1), (2, .int x2), (3, .int x3), (4, .int x4), (5, .int x5), (6, .int x6)] [] h := by
  refine td_iload 6 dX10_shareOf_17 rfl ?_
  refine td_iload 4 dX10_shareOf_19 rfl ?_
  obtain ⟨Kt, Kf⟩ := K
  refine td_icmp_ge (tgt := 75) dX10_shareOf_21 (by decide) (fun q21 => ?_) (fun q21 => ?_)
  · have K := Kt q21
    refine td_iload 5 dX10_shareOf_75 rfl ?_
    exact td_ireturn rfl dX10_shareOf_77 K
  · have K := Kf q21
    refine td_iload_n 3 dX10_shareOf_24 rfl ?_
    refine td_iload_n 1 dX10_shareOf_25 rfl ?_
    refine td_iload 4 dX10_shareOf_26 rfl ?_
    refine td_imul dX10_shareOf_28 ?_
    refine td_iadd dX10_shareOf_29 ?_
    refine td_iload 6 dX10_shareOf_30 rfl ?_
    refine td_iadd dX10_shareOf_32 ?_
    refine td_bipush (v := 12) dX10_shareOf_33 (by decide) ?_
    refine td_irem dX10_shareOf_35 (by decide) ?_
    refine td_istore (lv2 := [(0, .ref 85), (1, .int x1), (2, .int x2), (3, .int x3), (4, .int x4), (5, .int x5), (6, .int x6), (7, .int (jrem ((x3 + (x1 * x4)) + x6) 12))]) dX10_shareOf_36 (by decide) rfl ?_
    refine td_iload 5 dX10_shareOf_38 rfl ?_
    refine td_iload 7 dX10_shareOf_40 rfl ?_
    refine td_i2l dX10_shareOf_42 ?_
    refine td_bipush (v := 6) dX10_shareOf_43 (by decide) ?_
    refine td_iload_n 2 dX10_shareOf_45 rfl ?_
    refine td_imul dX10_shareOf_46 ?_
    refine td_i2l dX10_shareOf_47 ?_
    refine td_bipush (v := 6) dX10_shareOf_48 (by decide) ?_
    refine td_iload_n 2 dX10_shareOf_50 rfl ?_
    refine td_imul dX10_shareOf_51 ?_
    refine td_iconst (v := 2) dX10_shareOf_52 (by decide) ?_
    refine td_iadd dX10_shareOf_53 ?_
    refine td_i2l dX10_shareOf_54 ?_
    refine cl_X10_75 rfl dX10_shareOf_55 (Nat.le_of_ble_eq_true rfl) (c_in ((jrem ((x3 + (x1 * x4)) + x6) 12).toInt64) ((6 * x2).toInt64) (((6 * x2) + 2).toInt64)) (eR_k ?_)
    refine td_eqs (st2 := [.int (b2i (((6 * x2).toInt64) ≤ ((jrem ((x3 + (x1 * x4)) + x6) 12).toInt64) ∧ ((jrem ((x3 + (x1 * x4)) + x6) 12).toInt64) ≤ (((6 * x2) + 2).toInt64))), .int x5]) rfl ?_
    have KJ66 : td_J G (d + 1) mX10_shareOf Post 66 [(0, .ref 85), (1, .int x1), (2, .int x2), (3, .int x3), (4, .int x4), (5, .int x5), (6, .int x6), (7, .int (jrem ((x3 + (x1 * x4)) + x6) 12))] [.int (if (b2i (((6 * x2).toInt64) ≤ ((jrem ((x3 + (x1 * x4)) + x6) 12).toInt64) ∧ ((jrem ((x3 + (x1 * x4)) + x6) 12).toInt64) ≤ (((6 * x2) + 2).toInt64))) = 0 then 0 else 1 : Int32), .int x5] h := by
      refine td_iadd dX10_shareOf_66 ?_
      refine td_istore (lv2 := [(0, .ref 85), (1, .int x1), (2, .int x2), (3, .int x3), (4, .int x4), (5, .int (x5 + (if (b2i (((6 * x2).toInt64) ≤ ((jrem ((x3 + (x1 * x4)) + x6) 12).toInt64) ∧ ((jrem ((x3 + (x1 * x4)) + x6) 12).toInt64) ≤ (((6 * x2) + 2).toInt64))) = 0 then 0 else 1 : Int32))), (6, .int x6), (7, .int (jrem ((x3 + (x1 * x4)) + x6) 12))]) dX10_shareOf_67 (by decide) rfl ?_
      refine td_iinc 6 (v := x6 + 1) (lv2 := [(0, .ref 85), (1, .int x1), (2, .int x2), (3, .int x3), (4, .int x4), (5, .int (x5 + (if (b2i (((6 * x2).toInt64) ≤ ((jrem ((x3 + (x1 * x4)) + x6) 12).toInt64) ∧ ((jrem ((x3 + (x1 * x4)) + x6) 12).toInt64) ≤ (((6 * x2) + 2).toInt64))) = 0 then 0 else 1 : Int32))), (6, .int (x6 + 1)), (7, .int (jrem ((x3 + (x1 * x4)) + x6) 12))]) dX10_shareOf_69 rfl (congrArg (x6 + ·) (by decide)) (by decide) rfl ?_
      refine td_goto (tgt := 17) dX10_shareOf_72 (by decide) ?_
      refine td_drop (lv2 := [(0, .ref 85), (1, .int x1), (2, .int x2), (3, .int x3), (4, .int x4), (5, .int (x5 + (if (b2i (((6 * x2).toInt64) ≤ ((jrem ((x3 + (x1 * x4)) + x6) 12).toInt64) ∧ ((jrem ((x3 + (x1 * x4)) + x6) 12).toInt64) ≤ (((6 * x2) + 2).toInt64))) = 0 then 0 else 1 : Int32))), (6, .int (x6 + 1))]) [0, 1, 2, 3, 4, 5, 6] rfl ?_
      exact K
    refine td_if_eq (tgt := 65) dX10_shareOf_58 (by decide) (fun q58 => ?_) (fun q58 => ?_)
    · skip
      refine td_iconst (v := 0) dX10_shareOf_65 (by decide) ?_
      exact td_to KJ66 rfl (by rw [show (if (b2i (((6 * x2).toInt64) ≤ ((jrem ((x3 + (x1 * x4)) + x6) 12).toInt64) ∧ ((jrem ((x3 + (x1 * x4)) + x6) 12).toInt64) ≤ (((6 * x2) + 2).toInt64))) = 0 then 0 else 1 : Int32) = _ from if_pos q58]) rfl
    · skip
      refine td_iconst (v := 1) dX10_shareOf_61 (by decide) ?_
      refine td_goto (tgt := 66) dX10_shareOf_62 (by decide) ?_
      exact td_to KJ66 rfl (by rw [show (if (b2i (((6 * x2).toInt64) ≤ ((jrem ((x3 + (x1 * x4)) + x6) 12).toInt64) ∧ ((jrem ((x3 + (x1 * x4)) + x6) 12).toInt64) ≤ (((6 * x2) + 2).toInt64))) = 0 then 0 else 1 : Int32) = _ from if_neg q58]) rfl
set_option maxRecDepth 20000 in
set_option maxHeartbeats 4000000 in
theorem gX10_insideOf_0 {G : td_G} {d : Nat} {Post : td_P} {x1 : Int32} {h : td_H} (K : td_J G d mX10_insideOf Post 4 [(0, .ref 85), (1, .int x1), (2, .int 0), (3, .int 0)] [] h) : td_J G d mX10_insideOf Post 0 [(0, .ref 85), (1, .int x1)] [] h := by
  refine td_iconst (v := 0) dX10_insideOf_0 (by decide) ?_
  refine td_istore_n (lv2 := [(0, .ref 85), (1, .int x1), (2, .int 0)]) dX10_insideOf_1 (by decide) rfl ?_
  refine td_iconst (v := 0) dX10_insideOf_2 (by decide) ?_
  refine td_istore_n (lv2 := [(0, .ref 85), (1, .int x1), (2, .int 0), (3, .int 0)]) dX10_insideOf_3 (by decide) rfl ?_
  exact K
set_option maxRecDepth 20000 in
set_option maxHeartbeats 4000000 in
theorem gX10_insideOf_4 {G : td_G} {d : Nat} {Post : td_P} {x1 x2 x3 : Int32} {h : td_H} (K : ((h 86 9) ≤ x3 → (Post (some (.int x2)) h)) ∧ (¬ (h 86 9) ≤ x3 → (vp_in x3 12 ∧ (td_J G d mX10_insideOf Post 4 [(0, .ref 85), (1, .int x1), (2, .int (x2 ||| (if (h 91 (ix x3)) = 2 then if (h 92 (ix x3)) = x1 then (jshl 1 x3) else 0 else 0 : Int32))), (3, .int (x3 + 1))] [] h)))) : td_J G d mX10_insideOf Post 4 [(0, .ref 85), (1, .int x1), (2, .int x2), (3, .int x3)] [] h := by
  refine td_iload_n 3 dX10_insideOf_4 rfl ?_
  refine td_aload_n 0 dX10_insideOf_5 rfl ?_
  refine gf_X10_7 rfl kp_85 dX10_insideOf_6 ?_
  refine td_bipush (v := 9) dX10_insideOf_9 (by decide) ?_
  refine td_ialdc (j := 9) kp_86 (by decide) (by unfold vp_in; decide) (by decide) dX10_insideOf_11 ?_
  obtain ⟨Kt, Kf⟩ := K
  refine td_icmp_ge (tgt := 51) dX10_insideOf_12 (by decide) (fun q12 => ?_) (fun q12 => ?_)
  · have K := Kt q12
    refine td_iload_n 2 dX10_insideOf_51 rfl ?_
    exact td_ireturn rfl dX10_insideOf_52 K
  · have K := Kf q12
    refine td_iload_n 2 dX10_insideOf_15 rfl ?_
    refine td_aload_n 0 dX10_insideOf_16 rfl ?_
    refine gf_X10_25 rfl kp_85 dX10_insideOf_17 ?_
    refine td_iload_n 3 dX10_insideOf_20 rfl ?_
    obtain ⟨e21, K⟩ := K
    refine td_ialdc (j := (ix x3)) kp_91 (by decide) e21 rfl dX10_insideOf_21 ?_
    refine td_iconst (v := 2) dX10_insideOf_22 (by decide) ?_
    have KJ43 : td_J G d mX10_insideOf Post 43 [(0, .ref 85), (1, .int x1), (2, .int x2), (3, .int x3)] [.int (if (h 91 (ix x3)) = 2 then if (h 92 (ix x3)) = x1 then (jshl 1 x3) else 0 else 0 : Int32), .int x2] h := by
      refine td_ior dX10_insideOf_43 ?_
      refine td_istore_n (lv2 := [(0, .ref 85), (1, .int x1), (2, .int (x2 ||| (if (h 91 (ix x3)) = 2 then if (h 92 (ix x3)) = x1 then (jshl 1 x3) else 0 else 0 : Int32))), (3, .int x3)]) dX10_insideOf_44 (by decide) rfl ?_
      refine td_iinc 3 (v := x3 + 1) (lv2 := [(0, .ref 85), (1, .int x1), (2, .int (x2 ||| (if (h 91 (ix x3)) = 2 then if (h 92 (ix x3)) = x1 then (jshl 1 x3) else 0 else 0 : Int32))), (3, .int (x3 + 1))]) dX10_insideOf_45 rfl (congrArg (x3 + ·) (by decide)) (by decide) rfl ?_
      refine td_goto (tgt := 4) dX10_insideOf_48 (by decide) ?_
      exact K
    refine td_icmp_ne (tgt := 42) dX10_insideOf_23 (by decide) (fun q23 => ?_) (fun q23 => ?_)
    · skip
      refine td_iconst (v := 0) dX10_insideOf_42 (by decide) ?_
      exact td_to KJ43 rfl (by rw [show (if (h 91 (ix x3)) = 2 then if (h 92 (ix x3)) = x1 then (jshl 1 x3) else 0 else 0 : Int32) = _ from if_neg q23]) rfl
    · skip
      refine td_aload_n 0 dX10_insideOf_26 rfl ?_
      refine gf_X10_28 rfl kp_85 dX10_insideOf_27 ?_
      refine td_iload_n 3 dX10_insideOf_30 rfl ?_
      refine td_ialdc (j := (ix x3)) kp_92 (by decide) e21 rfl dX10_insideOf_31 ?_
      refine td_iload_n 1 dX10_insideOf_32 rfl ?_
      refine td_icmp_ne (tgt := 42) dX10_insideOf_33 (by decide) (fun q33 => ?_) (fun q33 => ?_)
      · skip
        refine td_iconst (v := 0) dX10_insideOf_42 (by decide) ?_
        exact td_to KJ43 rfl (by rw [show (if (h 91 (ix x3)) = 2 then if (h 92 (ix x3)) = x1 then (jshl 1 x3) else 0 else 0 : Int32) = _ from (if_pos q23).trans (if_neg q33)]) rfl
      · skip
        refine td_iconst (v := 1) dX10_insideOf_36 (by decide) ?_
        refine td_iload_n 3 dX10_insideOf_37 rfl ?_
        refine td_ishl dX10_insideOf_38 ?_
        refine td_goto (tgt := 43) dX10_insideOf_39 (by decide) ?_
        exact td_to KJ43 rfl (by rw [show (if (h 91 (ix x3)) = 2 then if (h 92 (ix x3)) = x1 then (jshl 1 x3) else 0 else 0 : Int32) = _ from (if_pos q23).trans (if_pos q33)]) rfl
set_option maxRecDepth 20000 in
set_option maxHeartbeats 4000000 in
theorem gX10_firstAt_0 {G : td_G} {d : Nat} {Post : td_P} {x1 : Int32} {h : td_H} (K : td_J G (d + 1) mX10_firstAt Post 5 [(0, .ref 85), (1, .int x1), (2, .int (-4)), (3, .int 0)] [] h) : td_J G (d + 1) mX10_firstAt Post 0 [(0, .ref 85), (1, .int x1)] [] h := by
  refine td_bipush (v := (-4)) dX10_firstAt_0 (by decide) ?_
  refine td_istore_n (lv2 := [(0, .ref 85), (1, .int x1), (2, .int (-4))]) dX10_firstAt_2 (by decide) rfl ?_
  refine td_iconst (v := 0) dX10_firstAt_3 (by decide) ?_
  refine td_istore_n (lv2 := [(0, .ref 85), (1, .int x1), (2, .int (-4)), (3, .int 0)]) dX10_firstAt_4 (by decide) rfl ?_
  exact K
set_option maxRecDepth 20000 in
set_option maxHeartbeats 4000000 in
theorem gX10_firstAt_5 {G : td_G} {d : Nat} {Post : td_P} {x1 x2 x3 : Int32} {h : td_H} (K : ((h 86 9) ≤ x3 → (Post (some (.int x2)) h)) ∧ (¬ (h 86 9) ≤ x3 → (vp_in x3 12 ∧ (((¬ (h 91 (ix x3)) = 1 → (True)) ∧ ((h 91 (ix x3)) = 1 → (vp_in ((10 + (3 * x3)) + 1) 46 ∧ ((¬ (h 86 (ix ((10 + (3 * x3)) + 1))) = x1 → (True)) ∧ ((h 86 (ix ((10 + (3 * x3)) + 1))) = x1 → (vp_in ((10 + (3 * x3)) + 2) 46 ∧ (((x2 < 0 → (True)) ∧ (¬ x2 < 0 → (vp_in ((10 + (3 * x2)) + 2) 46 ∧ True))) ∧ (((x2 < 0 → (True)) ∧ (¬ x2 < 0 → (((if (h 86 (ix ((10 + (3 * x3)) + 2))) = 4 then 1 else 0 : Int32) = 0 → ((¬ (if (h 86 (ix ((10 + (3 * x3)) + 2))) = 4 then 1 else 0 : Int32) = (if x2 < 0 then 0 else if (h 86 (ix ((10 + (3 * x2)) + 2))) = 4 then 1 else 0 : Int32) → (True)) ∧ ((if (h 86 (ix ((10 + (3 * x3)) + 2))) = 4 then 1 else 0 : Int32) = (if x2 < 0 then 0 else if (h 86 (ix ((10 + (3 * x2)) + 2))) = 4 then 1 else 0 : Int32) → (vp_in x2 12 ∧ True)))) ∧ (¬ (if (h 86 (ix ((10 + (3 * x3)) + 2))) = 4 then 1 else 0 : Int32) = 0 → (((if x2 < 0 then 0 else if (h 86 (ix ((10 + (3 * x2)) + 2))) = 4 then 1 else 0 : Int32) = 0 → (True)) ∧ (¬ (if x2 < 0 then 0 else if (h 86 (ix ((10 + (3 * x2)) + 2))) = 4 then 1 else 0 : Int32) = 0 → ((¬ (if (h 86 (ix ((10 + (3 * x3)) + 2))) = 4 then 1 else 0 : Int32) = (if x2 < 0 then 0 else if (h 86 (ix ((10 + (3 * x2)) + 2))) = 4 then 1 else 0 : Int32) → (True)) ∧ ((if (h 86 (ix ((10 + (3 * x3)) + 2))) = 4 then 1 else 0 : Int32) = (if x2 < 0 then 0 else if (h 86 (ix ((10 + (3 * x2)) + 2))) = 4 then 1 else 0 : Int32) → (vp_in x2 12 ∧ True))))))))))))))))) ∧ (td_J G (d + 1) mX10_firstAt Post 5 [(0, .ref 85), (1, .int x1), (2, .int (if (h 91 (ix x3)) = 1 then if (h 86 (ix ((10 + (3 * x3)) + 1))) = x1 then (if x2 < 0 then x3 else if (if (h 86 (ix ((10 + (3 * x3)) + 2))) = 4 then 1 else 0 : Int32) = 0 then if (if (h 86 (ix ((10 + (3 * x3)) + 2))) = 4 then 1 else 0 : Int32) = (if x2 < 0 then 0 else if (h 86 (ix ((10 + (3 * x2)) + 2))) = 4 then 1 else 0 : Int32) then if (h 88 (ix x2)) ≤ (h 88 (ix x3)) then x2 else x3 else x2 else if (if x2 < 0 then 0 else if (h 86 (ix ((10 + (3 * x2)) + 2))) = 4 then 1 else 0 : Int32) = 0 then x3 else if (if (h 86 (ix ((10 + (3 * x3)) + 2))) = 4 then 1 else 0 : Int32) = (if x2 < 0 then 0 else if (h 86 (ix ((10 + (3 * x2)) + 2))) = 4 then 1 else 0 : Int32) then if (h 88 (ix x2)) ≤ (h 88 (ix x3)) then x2 else x3 else x2 : Int32) else x2 else x2 : Int32)), (3, .int (x3 + 1))] [] h))))) : td_J G (d + 1) mX10_firstAt Post 5 [(0, .ref 85), (1, .int x1), (2, .int x2), (3, .int x3)] [] h := by
  refine td_iload_n 3 dX10_firstAt_5 rfl ?_
  refine td_aload_n 0 dX10_firstAt_6 rfl ?_
  refine gf_X10_7 rfl kp_85 dX10_firstAt_7 ?_
  refine td_bipush (v := 9) dX10_firstAt_10 (by decide) ?_
  refine td_ialdc (j := 9) kp_86 (by decide) (by unfold vp_in; decide) (by decide) dX10_firstAt_12 ?_
  obtain ⟨Kt, Kf⟩ := K
  refine td_icmp_ge (tgt := 122) dX10_firstAt_13 (by decide) (fun q13 => ?_) (fun q13 => ?_)
  · have K := Kt q13
    refine td_iload_n 2 dX10_firstAt_122 rfl ?_
    exact td_ireturn rfl dX10_firstAt_123 K
  · have K := Kf q13
    refine td_aload_n 0 dX10_firstAt_16 rfl ?_
    refine gf_X10_25 rfl kp_85 dX10_firstAt_17 ?_
    refine td_iload_n 3 dX10_firstAt_20 rfl ?_
    obtain ⟨e21, K⟩ := K
    refine td_ialdc (j := (ix x3)) kp_91 (by decide) e21 rfl dX10_firstAt_21 ?_
    refine td_iconst (v := 1) dX10_firstAt_22 (by decide) ?_
    obtain ⟨Ks23, K⟩ := K
    have KJ116 : td_J G (d + 1) mX10_firstAt Post 116 [(0, .ref 85), (1, .int x1), (2, .int (if (h 91 (ix x3)) = 1 then if (h 86 (ix ((10 + (3 * x3)) + 1))) = x1 then (if x2 < 0 then x3 else if (if (h 86 (ix ((10 + (3 * x3)) + 2))) = 4 then 1 else 0 : Int32) = 0 then if (if (h 86 (ix ((10 + (3 * x3)) + 2))) = 4 then 1 else 0 : Int32) = (if x2 < 0 then 0 else if (h 86 (ix ((10 + (3 * x2)) + 2))) = 4 then 1 else 0 : Int32) then if (h 88 (ix x2)) ≤ (h 88 (ix x3)) then x2 else x3 else x2 else if (if x2 < 0 then 0 else if (h 86 (ix ((10 + (3 * x2)) + 2))) = 4 then 1 else 0 : Int32) = 0 then x3 else if (if (h 86 (ix ((10 + (3 * x3)) + 2))) = 4 then 1 else 0 : Int32) = (if x2 < 0 then 0 else if (h 86 (ix ((10 + (3 * x2)) + 2))) = 4 then 1 else 0 : Int32) then if (h 88 (ix x2)) ≤ (h 88 (ix x3)) then x2 else x3 else x2 : Int32) else x2 else x2 : Int32)), (3, .int x3)] [] h := by
      refine td_iinc 3 (v := x3 + 1) (lv2 := [(0, .ref 85), (1, .int x1), (2, .int (if (h 91 (ix x3)) = 1 then if (h 86 (ix ((10 + (3 * x3)) + 1))) = x1 then (if x2 < 0 then x3 else if (if (h 86 (ix ((10 + (3 * x3)) + 2))) = 4 then 1 else 0 : Int32) = 0 then if (if (h 86 (ix ((10 + (3 * x3)) + 2))) = 4 then 1 else 0 : Int32) = (if x2 < 0 then 0 else if (h 86 (ix ((10 + (3 * x2)) + 2))) = 4 then 1 else 0 : Int32) then if (h 88 (ix x2)) ≤ (h 88 (ix x3)) then x2 else x3 else x2 else if (if x2 < 0 then 0 else if (h 86 (ix ((10 + (3 * x2)) + 2))) = 4 then 1 else 0 : Int32) = 0 then x3 else if (if (h 86 (ix ((10 + (3 * x3)) + 2))) = 4 then 1 else 0 : Int32) = (if x2 < 0 then 0 else if (h 86 (ix ((10 + (3 * x2)) + 2))) = 4 then 1 else 0 : Int32) then if (h 88 (ix x2)) ≤ (h 88 (ix x3)) then x2 else x3 else x2 : Int32) else x2 else x2 : Int32)), (3, .int (x3 + 1))]) dX10_firstAt_116 rfl (congrArg (x3 + ·) (by decide)) (by decide) rfl ?_
      refine td_goto (tgt := 5) dX10_firstAt_119 (by decide) ?_
      exact K
    refine td_icmp_ne (tgt := 116) dX10_firstAt_23 (by decide) (fun q23 => ?_) (fun q23 => ?_)
    · skip
      exact td_to KJ116 (by rw [show (if (h 91 (ix x3)) = 1 then if (h 86 (ix ((10 + (3 * x3)) + 1))) = x1 then (if x2 < 0 then x3 else if (if (h 86 (ix ((10 + (3 * x3)) + 2))) = 4 then 1 else 0 : Int32) = 0 then if (if (h 86 (ix ((10 + (3 * x3)) + 2))) = 4 then 1 else 0 : Int32) = (if x2 < 0 then 0 else if (h 86 (ix ((10 + (3 * x2)) + 2))) = 4 then 1 else 0 : Int32) then if (h 88 (ix x2)) ≤ (h 88 (ix x3)) then x2 else x3 else x2 else if (if x2 < 0 then 0 else if (h 86 (ix ((10 + (3 * x2)) + 2))) = 4 then 1 else 0 : Int32) = 0 then x3 else if (if (h 86 (ix ((10 + (3 * x3)) + 2))) = 4 then 1 else 0 : Int32) = (if x2 < 0 then 0 else if (h 86 (ix ((10 + (3 * x2)) + 2))) = 4 then 1 else 0 : Int32) then if (h 88 (ix x2)) ≤ (h 88 (ix x3)) then x2 else x3 else x2 : Int32) else x2 else x2 : Int32) = _ from if_neg q23]) rfl rfl
    · have K := Ks23.2 q23
      refine td_aload_n 0 dX10_firstAt_26 rfl ?_
      refine td_iload_n 3 dX10_firstAt_27 rfl ?_
      refine td_iconst (v := 1) dX10_firstAt_28 (by decide) ?_
      obtain ⟨e29_0, K⟩ := K
      refine cl_X10_94 rfl kp_85 dX10_firstAt_29 (Nat.le_of_ble_eq_true rfl) (c_of x3 1 e29_0) (eR_k ?_)
      refine td_eqs (st2 := [.int (h 86 (ix ((10 + (3 * x3)) + 1)))]) rfl ?_
      refine td_iload_n 1 dX10_firstAt_32 rfl ?_
      refine td_icmp_ne (tgt := 116) dX10_firstAt_33 (by decide) (fun q33 => ?_) (fun q33 => ?_)
      · skip
        exact td_to KJ116 (by rw [show (if (h 91 (ix x3)) = 1 then if (h 86 (ix ((10 + (3 * x3)) + 1))) = x1 then (if x2 < 0 then x3 else if (if (h 86 (ix ((10 + (3 * x3)) + 2))) = 4 then 1 else 0 : Int32) = 0 then if (if (h 86 (ix ((10 + (3 * x3)) + 2))) = 4 then 1 else 0 : Int32) = (if x2 < 0 then 0 else if (h 86 (ix ((10 + (3 * x2)) + 2))) = 4 then 1 else 0 : Int32) then if (h 88 (ix x2)) ≤ (h 88 (ix x3)) then x2 else x3 else x2 else if (if x2 < 0 then 0 else if (h 86 (ix ((10 + (3 * x2)) + 2))) = 4 then 1 else 0 : Int32) = 0 then x3 else if (if (h 86 (ix ((10 + (3 * x3)) + 2))) = 4 then 1 else 0 : Int32) = (if x2 < 0 then 0 else if (h 86 (ix ((10 + (3 * x2)) + 2))) = 4 then 1 else 0 : Int32) then if (h 88 (ix x2)) ≤ (h 88 (ix x3)) then x2 else x3 else x2 : Int32) else x2 else x2 : Int32) = _ from (if_pos q23).trans (if_neg q33)]) rfl rfl
      · have K := K.2 q33
        refine td_aload_n 0 dX10_firstAt_36 rfl ?_
        refine td_iload_n 3 dX10_firstAt_37 rfl ?_
        refine td_iconst (v := 2) dX10_firstAt_38 (by decide) ?_
        obtain ⟨e39_0, K⟩ := K
        refine cl_X10_94 rfl kp_85 dX10_firstAt_39 (Nat.le_of_ble_eq_true rfl) (c_of x3 2 e39_0) (eR_k ?_)
        refine td_eqs (st2 := [.int (h 86 (ix ((10 + (3 * x3)) + 2)))]) rfl ?_
        refine td_iconst (v := 4) dX10_firstAt_42 (by decide) ?_
        have KJ51 : td_J G (d + 1) mX10_firstAt Post 51 [(0, .ref 85), (1, .int x1), (2, .int x2), (3, .int x3)] [.int (if (h 86 (ix ((10 + (3 * x3)) + 2))) = 4 then 1 else 0 : Int32)] h := by
          refine td_istore (lv2 := [(0, .ref 85), (1, .int x1), (2, .int x2), (3, .int x3), (4, .int (if (h 86 (ix ((10 + (3 * x3)) + 2))) = 4 then 1 else 0 : Int32))]) dX10_firstAt_51 (by decide) rfl ?_
          refine td_iload_n 2 dX10_firstAt_53 rfl ?_
          obtain ⟨Ks54, K⟩ := K
          have KJ72 : td_J G (d + 1) mX10_firstAt Post 72 [(0, .ref 85), (1, .int x1), (2, .int x2), (3, .int x3), (4, .int (if (h 86 (ix ((10 + (3 * x3)) + 2))) = 4 then 1 else 0 : Int32))] [.int (if x2 < 0 then 0 else if (h 86 (ix ((10 + (3 * x2)) + 2))) = 4 then 1 else 0 : Int32)] h := by
            refine td_istore (lv2 := [(0, .ref 85), (1, .int x1), (2, .int x2), (3, .int x3), (4, .int (if (h 86 (ix ((10 + (3 * x3)) + 2))) = 4 then 1 else 0 : Int32)), (5, .int (if x2 < 0 then 0 else if (h 86 (ix ((10 + (3 * x2)) + 2))) = 4 then 1 else 0 : Int32))]) dX10_firstAt_72 (by decide) rfl ?_
            refine td_iload_n 2 dX10_firstAt_74 rfl ?_
            have Ks75 := K
            have KJ115 : td_J G (d + 1) mX10_firstAt Post 115 [(0, .ref 85), (1, .int x1), (2, .int x2), (3, .int x3), (4, .int (if (h 86 (ix ((10 + (3 * x3)) + 2))) = 4 then 1 else 0 : Int32)), (5, .int (if x2 < 0 then 0 else if (h 86 (ix ((10 + (3 * x2)) + 2))) = 4 then 1 else 0 : Int32))] [.int (if x2 < 0 then x3 else if (if (h 86 (ix ((10 + (3 * x3)) + 2))) = 4 then 1 else 0 : Int32) = 0 then if (if (h 86 (ix ((10 + (3 * x3)) + 2))) = 4 then 1 else 0 : Int32) = (if x2 < 0 then 0 else if (h 86 (ix ((10 + (3 * x2)) + 2))) = 4 then 1 else 0 : Int32) then if (h 88 (ix x2)) ≤ (h 88 (ix x3)) then x2 else x3 else x2 else if (if x2 < 0 then 0 else if (h 86 (ix ((10 + (3 * x2)) + 2))) = 4 then 1 else 0 : Int32) = 0 then x3 else if (if (h 86 (ix ((10 + (3 * x3)) + 2))) = 4 then 1 else 0 : Int32) = (if x2 < 0 then 0 else if (h 86 (ix ((10 + (3 * x2)) + 2))) = 4 then 1 else 0 : Int32) then if (h 88 (ix x2)) ≤ (h 88 (ix x3)) then x2 else x3 else x2 : Int32)] h := by
              refine td_istore_n (lv2 := [(0, .ref 85), (1, .int x1), (2, .int (if x2 < 0 then x3 else if (if (h 86 (ix ((10 + (3 * x3)) + 2))) = 4 then 1 else 0 : Int32) = 0 then if (if (h 86 (ix ((10 + (3 * x3)) + 2))) = 4 then 1 else 0 : Int32) = (if x2 < 0 then 0 else if (h 86 (ix ((10 + (3 * x2)) + 2))) = 4 then 1 else 0 : Int32) then if (h 88 (ix x2)) ≤ (h 88 (ix x3)) then x2 else x3 else x2 else if (if x2 < 0 then 0 else if (h 86 (ix ((10 + (3 * x2)) + 2))) = 4 then 1 else 0 : Int32) = 0 then x3 else if (if (h 86 (ix ((10 + (3 * x3)) + 2))) = 4 then 1 else 0 : Int32) = (if x2 < 0 then 0 else if (h 86 (ix ((10 + (3 * x2)) + 2))) = 4 then 1 else 0 : Int32) then if (h 88 (ix x2)) ≤ (h 88 (ix x3)) then x2 else x3 else x2 : Int32)), (3, .int x3), (4, .int (if (h 86 (ix ((10 + (3 * x3)) + 2))) = 4 then 1 else 0 : Int32)), (5, .int (if x2 < 0 then 0 else if (h 86 (ix ((10 + (3 * x2)) + 2))) = 4 then 1 else 0 : Int32))]) dX10_firstAt_115 (by decide) rfl ?_
              refine td_drop (lv2 := [(0, .ref 85), (1, .int x1), (2, .int (if x2 < 0 then x3 else if (if (h 86 (ix ((10 + (3 * x3)) + 2))) = 4 then 1 else 0 : Int32) = 0 then if (if (h 86 (ix ((10 + (3 * x3)) + 2))) = 4 then 1 else 0 : Int32) = (if x2 < 0 then 0 else if (h 86 (ix ((10 + (3 * x2)) + 2))) = 4 then 1 else 0 : Int32) then if (h 88 (ix x2)) ≤ (h 88 (ix x3)) then x2 else x3 else x2 else if (if x2 < 0 then 0 else if (h 86 (ix ((10 + (3 * x2)) + 2))) = 4 then 1 else 0 : Int32) = 0 then x3 else if (if (h 86 (ix ((10 + (3 * x3)) + 2))) = 4 then 1 else 0 : Int32) = (if x2 < 0 then 0 else if (h 86 (ix ((10 + (3 * x2)) + 2))) = 4 then 1 else 0 : Int32) then if (h 88 (ix x2)) ≤ (h 88 (ix x3)) then x2 else x3 else x2 : Int32)), (3, .int x3)]) [0, 1, 2, 3] rfl ?_
              exact td_to KJ116 (by rw [show (if (h 91 (ix x3)) = 1 then if (h 86 (ix ((10 + (3 * x3)) + 1))) = x1 then (if x2 < 0 then x3 else if (if (h 86 (ix ((10 + (3 * x3)) + 2))) = 4 then 1 else 0 : Int32) = 0 then if (if (h 86 (ix ((10 + (3 * x3)) + 2))) = 4 then 1 else 0 : Int32) = (if x2 < 0 then 0 else if (h 86 (ix ((10 + (3 * x2)) + 2))) = 4 then 1 else 0 : Int32) then if (h 88 (ix x2)) ≤ (h 88 (ix x3)) then x2 else x3 else x2 else if (if x2 < 0 then 0 else if (h 86 (ix ((10 + (3 * x2)) + 2))) = 4 then 1 else 0 : Int32) = 0 then x3 else if (if (h 86 (ix ((10 + (3 * x3)) + 2))) = 4 then 1 else 0 : Int32) = (if x2 < 0 then 0 else if (h 86 (ix ((10 + (3 * x2)) + 2))) = 4 then 1 else 0 : Int32) then if (h 88 (ix x2)) ≤ (h 88 (ix x3)) then x2 else x3 else x2 : Int32) else x2 else x2 : Int32) = _ from (if_pos q23).trans (if_pos q33)]) rfl rfl
            refine td_if_lt (tgt := 110) dX10_firstAt_75 (by decide) (fun q75 => ?_) (fun q75 => ?_)
            · skip
              refine td_iload_n 3 dX10_firstAt_110 rfl ?_
              refine td_goto (tgt := 115) dX10_firstAt_111 (by decide) ?_
              exact td_to KJ115 rfl (by rw [show (if x2 < 0 then x3 else if (if (h 86 (ix ((10 + (3 * x3)) + 2))) = 4 then 1 else 0 : Int32) = 0 then if (if (h 86 (ix ((10 + (3 * x3)) + 2))) = 4 then 1 else 0 : Int32) = (if x2 < 0 then 0 else if (h 86 (ix ((10 + (3 * x2)) + 2))) = 4 then 1 else 0 : Int32) then if (h 88 (ix x2)) ≤ (h 88 (ix x3)) then x2 else x3 else x2 else if (if x2 < 0 then 0 else if (h 86 (ix ((10 + (3 * x2)) + 2))) = 4 then 1 else 0 : Int32) = 0 then x3 else if (if (h 86 (ix ((10 + (3 * x3)) + 2))) = 4 then 1 else 0 : Int32) = (if x2 < 0 then 0 else if (h 86 (ix ((10 + (3 * x2)) + 2))) = 4 then 1 else 0 : Int32) then if (h 88 (ix x2)) ≤ (h 88 (ix x3)) then x2 else x3 else x2 : Int32) = _ from if_pos q75]) rfl
            · have K := Ks75.2 q75
              refine td_iload 4 dX10_firstAt_78 rfl ?_
              refine td_if_eq (tgt := 88) dX10_firstAt_80 (by decide) (fun q80 => ?_) (fun q80 => ?_)
              · have K := K.1 q80
                refine td_iload 4 dX10_firstAt_88 rfl ?_
                refine td_iload 5 dX10_firstAt_90 rfl ?_
                refine td_icmp_ne (tgt := 114) dX10_firstAt_92 (by decide) (fun q92 => ?_) (fun q92 => ?_)
                · skip
                  refine td_iload_n 2 dX10_firstAt_114 rfl ?_
                  exact td_to KJ115 rfl (by rw [show (if x2 < 0 then x3 else if (if (h 86 (ix ((10 + (3 * x3)) + 2))) = 4 then 1 else 0 : Int32) = 0 then if (if (h 86 (ix ((10 + (3 * x3)) + 2))) = 4 then 1 else 0 : Int32) = (if x2 < 0 then 0 else if (h 86 (ix ((10 + (3 * x2)) + 2))) = 4 then 1 else 0 : Int32) then if (h 88 (ix x2)) ≤ (h 88 (ix x3)) then x2 else x3 else x2 else if (if x2 < 0 then 0 else if (h 86 (ix ((10 + (3 * x2)) + 2))) = 4 then 1 else 0 : Int32) = 0 then x3 else if (if (h 86 (ix ((10 + (3 * x3)) + 2))) = 4 then 1 else 0 : Int32) = (if x2 < 0 then 0 else if (h 86 (ix ((10 + (3 * x2)) + 2))) = 4 then 1 else 0 : Int32) then if (h 88 (ix x2)) ≤ (h 88 (ix x3)) then x2 else x3 else x2 : Int32) = _ from (if_neg q75).trans ((if_pos q80).trans (if_neg q92))]) rfl
                · have K := K.2 q92
                  refine td_aload_n 0 dX10_firstAt_95 rfl ?_
                  refine gf_X10_16 rfl kp_85 dX10_firstAt_96 ?_
                  refine td_iload_n 3 dX10_firstAt_99 rfl ?_
                  refine td_ialdc (j := (ix x3)) kp_88 (by decide) e21 rfl dX10_firstAt_100 ?_
                  refine td_aload_n 0 dX10_firstAt_101 rfl ?_
                  refine gf_X10_16 rfl kp_85 dX10_firstAt_102 ?_
                  refine td_iload_n 2 dX10_firstAt_105 rfl ?_
                  obtain ⟨e106, K⟩ := K
                  refine td_ialdc (j := (ix x2)) kp_88 (by decide) e106 rfl dX10_firstAt_106 ?_
                  refine td_icmp_ge (tgt := 114) dX10_firstAt_107 (by decide) (fun q107 => ?_) (fun q107 => ?_)
                  · skip
                    refine td_iload_n 2 dX10_firstAt_114 rfl ?_
                    exact td_to KJ115 rfl (by rw [show (if x2 < 0 then x3 else if (if (h 86 (ix ((10 + (3 * x3)) + 2))) = 4 then 1 else 0 : Int32) = 0 then if (if (h 86 (ix ((10 + (3 * x3)) + 2))) = 4 then 1 else 0 : Int32) = (if x2 < 0 then 0 else if (h 86 (ix ((10 + (3 * x2)) + 2))) = 4 then 1 else 0 : Int32) then if (h 88 (ix x2)) ≤ (h 88 (ix x3)) then x2 else x3 else x2 else if (if x2 < 0 then 0 else if (h 86 (ix ((10 + (3 * x2)) + 2))) = 4 then 1 else 0 : Int32) = 0 then x3 else if (if (h 86 (ix ((10 + (3 * x3)) + 2))) = 4 then 1 else 0 : Int32) = (if x2 < 0 then 0 else if (h 86 (ix ((10 + (3 * x2)) + 2))) = 4 then 1 else 0 : Int32) then if (h 88 (ix x2)) ≤ (h 88 (ix x3)) then x2 else x3 else x2 : Int32) = _ from (if_neg q75).trans ((if_pos q80).trans ((if_pos q92).trans (if_pos q107)))]) rfl
                  · skip
                    refine td_iload_n 3 dX10_firstAt_110 rfl ?_
                    refine td_goto (tgt := 115) dX10_firstAt_111 (by decide) ?_
                    exact td_to KJ115 rfl (by rw [show (if x2 < 0 then x3 else if (if (h 86 (ix ((10 + (3 * x3)) + 2))) = 4 then 1 else 0 : Int32) = 0 then if (if (h 86 (ix ((10 + (3 * x3)) + 2))) = 4 then 1 else 0 : Int32) = (if x2 < 0 then 0 else if (h 86 (ix ((10 + (3 * x2)) + 2))) = 4 then 1 else 0 : Int32) then if (h 88 (ix x2)) ≤ (h 88 (ix x3)) then x2 else x3 else x2 else if (if x2 < 0 then 0 else if (h 86 (ix ((10 + (3 * x2)) + 2))) = 4 then 1 else 0 : Int32) = 0 then x3 else if (if (h 86 (ix ((10 + (3 * x3)) + 2))) = 4 then 1 else 0 : Int32) = (if x2 < 0 then 0 else if (h 86 (ix ((10 + (3 * x2)) + 2))) = 4 then 1 else 0 : Int32) then if (h 88 (ix x2)) ≤ (h 88 (ix x3)) then x2 else x3 else x2 : Int32) = _ from (if_neg q75).trans ((if_pos q80).trans ((if_pos q92).trans (if_neg q107)))]) rfl
              · have K := K.2 q80
                refine td_iload 5 dX10_firstAt_83 rfl ?_
                refine td_if_eq (tgt := 110) dX10_firstAt_85 (by decide) (fun q85 => ?_) (fun q85 => ?_)
                · skip
                  refine td_iload_n 3 dX10_firstAt_110 rfl ?_
                  refine td_goto (tgt := 115) dX10_firstAt_111 (by decide) ?_
                  exact td_to KJ115 rfl (by rw [show (if x2 < 0 then x3 else if (if (h 86 (ix ((10 + (3 * x3)) + 2))) = 4 then 1 else 0 : Int32) = 0 then if (if (h 86 (ix ((10 + (3 * x3)) + 2))) = 4 then 1 else 0 : Int32) = (if x2 < 0 then 0 else if (h 86 (ix ((10 + (3 * x2)) + 2))) = 4 then 1 else 0 : Int32) then if (h 88 (ix x2)) ≤ (h 88 (ix x3)) then x2 else x3 else x2 else if (if x2 < 0 then 0 else if (h 86 (ix ((10 + (3 * x2)) + 2))) = 4 then 1 else 0 : Int32) = 0 then x3 else if (if (h 86 (ix ((10 + (3 * x3)) + 2))) = 4 then 1 else 0 : Int32) = (if x2 < 0 then 0 else if (h 86 (ix ((10 + (3 * x2)) + 2))) = 4 then 1 else 0 : Int32) then if (h 88 (ix x2)) ≤ (h 88 (ix x3)) then x2 else x3 else x2 : Int32) = _ from (if_neg q75).trans ((if_neg q80).trans (if_pos q85))]) rfl
                · have K := K.2 q85
                  refine td_iload 4 dX10_firstAt_88 rfl ?_
                  refine td_iload 5 dX10_firstAt_90 rfl ?_
                  refine td_icmp_ne (tgt := 114) dX10_firstAt_92 (by decide) (fun q92 => ?_) (fun q92 => ?_)
                  · skip
                    refine td_iload_n 2 dX10_firstAt_114 rfl ?_
                    exact td_to KJ115 rfl (by rw [show (if x2 < 0 then x3 else if (if (h 86 (ix ((10 + (3 * x3)) + 2))) = 4 then 1 else 0 : Int32) = 0 then if (if (h 86 (ix ((10 + (3 * x3)) + 2))) = 4 then 1 else 0 : Int32) = (if x2 < 0 then 0 else if (h 86 (ix ((10 + (3 * x2)) + 2))) = 4 then 1 else 0 : Int32) then if (h 88 (ix x2)) ≤ (h 88 (ix x3)) then x2 else x3 else x2 else if (if x2 < 0 then 0 else if (h 86 (ix ((10 + (3 * x2)) + 2))) = 4 then 1 else 0 : Int32) = 0 then x3 else if (if (h 86 (ix ((10 + (3 * x3)) + 2))) = 4 then 1 else 0 : Int32) = (if x2 < 0 then 0 else if (h 86 (ix ((10 + (3 * x2)) + 2))) = 4 then 1 else 0 : Int32) then if (h 88 (ix x2)) ≤ (h 88 (ix x3)) then x2 else x3 else x2 : Int32) = _ from (if_neg q75).trans ((if_neg q80).trans ((if_neg q85).trans (if_neg q92)))]) rfl
                  · have K := K.2 q92
                    refine td_aload_n 0 dX10_firstAt_95 rfl ?_
                    refine gf_X10_16 rfl kp_85 dX10_firstAt_96 ?_
                    refine td_iload_n 3 dX10_firstAt_99 rfl ?_
                    refine td_ialdc (j := (ix x3)) kp_88 (by decide) e21 rfl dX10_firstAt_100 ?_
                    refine td_aload_n 0 dX10_firstAt_101 rfl ?_
                    refine gf_X10_16 rfl kp_85 dX10_firstAt_102 ?_
                    refine td_iload_n 2 dX10_firstAt_105 rfl ?_
                    obtain ⟨e106, K⟩ := K
                    refine td_ialdc (j := (ix x2)) kp_88 (by decide) e106 rfl dX10_firstAt_106 ?_
                    refine td_icmp_ge (tgt := 114) dX10_firstAt_107 (by decide) (fun q107 => ?_) (fun q107 => ?_)
                    · skip
                      refine td_iload_n 2 dX10_firstAt_114 rfl ?_
                      exact td_to KJ115 rfl (by rw [show (if x2 < 0 then x3 else if (if (h 86 (ix ((10 + (3 * x3)) + 2))) = 4 then 1 else 0 : Int32) = 0 then if (if (h 86 (ix ((10 + (3 * x3)) + 2))) = 4 then 1 else 0 : Int32) = (if x2 < 0 then 0 else if (h 86 (ix ((10 + (3 * x2)) + 2))) = 4 then 1 else 0 : Int32) then if (h 88 (ix x2)) ≤ (h 88 (ix x3)) then x2 else x3 else x2 else if (if x2 < 0 then 0 else if (h 86 (ix ((10 + (3 * x2)) + 2))) = 4 then 1 else 0 : Int32) = 0 then x3 else if (if (h 86 (ix ((10 + (3 * x3)) + 2))) = 4 then 1 else 0 : Int32) = (if x2 < 0 then 0 else if (h 86 (ix ((10 + (3 * x2)) + 2))) = 4 then 1 else 0 : Int32) then if (h 88 (ix x2)) ≤ (h 88 (ix x3)) then x2 else x3 else x2 : Int32) = _ from (if_neg q75).trans ((if_neg q80).trans ((if_neg q85).trans ((if_pos q92).trans (if_pos q107))))]) rfl
                    · skip
                      refine td_iload_n 3 dX10_firstAt_110 rfl ?_
                      refine td_goto (tgt := 115) dX10_firstAt_111 (by decide) ?_
                      exact td_to KJ115 rfl (by rw [show (if x2 < 0 then x3 else if (if (h 86 (ix ((10 + (3 * x3)) + 2))) = 4 then 1 else 0 : Int32) = 0 then if (if (h 86 (ix ((10 + (3 * x3)) + 2))) = 4 then 1 else 0 : Int32) = (if x2 < 0 then 0 else if (h 86 (ix ((10 + (3 * x2)) + 2))) = 4 then 1 else 0 : Int32) then if (h 88 (ix x2)) ≤ (h 88 (ix x3)) then x2 else x3 else x2 else if (if x2 < 0 then 0 else if (h 86 (ix ((10 + (3 * x2)) + 2))) = 4 then 1 else 0 : Int32) = 0 then x3 else if (if (h 86 (ix ((10 + (3 * x3)) + 2))) = 4 then 1 else 0 : Int32) = (if x2 < 0 then 0 else if (h 86 (ix ((10 + (3 * x2)) + 2))) = 4 then 1 else 0 : Int32) then if (h 88 (ix x2)) ≤ (h 88 (ix x3)) then x2 else x3 else x2 : Int32) = _ from (if_neg q75).trans ((if_neg q80).trans ((if_neg q85).trans ((if_pos q92).trans (if_neg q107))))]) rfl
          refine td_if_lt (tgt := 71) dX10_firstAt_54 (by decide) (fun q54 => ?_) (fun q54 => ?_)
          · skip
            refine td_iconst (v := 0) dX10_firstAt_71 (by decide) ?_
            exact td_to KJ72 rfl (by rw [show (if x2 < 0 then 0 else if (h 86 (ix ((10 + (3 * x2)) + 2))) = 4 then 1 else 0 : Int32) = _ from if_pos q54]) rfl
          · have K := Ks54.2 q54
            refine td_aload_n 0 dX10_firstAt_57 rfl ?_
            refine td_iload_n 2 dX10_firstAt_58 rfl ?_
            refine td_iconst (v := 2) dX10_firstAt_59 (by decide) ?_
            obtain ⟨e60_0, K⟩ := K
            refine cl_X10_94 rfl kp_85 dX10_firstAt_60 (Nat.le_of_ble_eq_true rfl) (c_of x2 2 e60_0) (eR_k ?_)
            refine td_eqs (st2 := [.int (h 86 (ix ((10 + (3 * x2)) + 2)))]) rfl ?_
            refine td_iconst (v := 4) dX10_firstAt_63 (by decide) ?_
            refine td_icmp_ne (tgt := 71) dX10_firstAt_64 (by decide) (fun q64 => ?_) (fun q64 => ?_)
            · skip
              refine td_iconst (v := 0) dX10_firstAt_71 (by decide) ?_
              exact td_to KJ72 rfl (by rw [show (if x2 < 0 then 0 else if (h 86 (ix ((10 + (3 * x2)) + 2))) = 4 then 1 else 0 : Int32) = _ from (if_neg q54).trans (if_neg q64)]) rfl
            · skip
              refine td_iconst (v := 1) dX10_firstAt_67 (by decide) ?_
              refine td_goto (tgt := 72) dX10_firstAt_68 (by decide) ?_
              exact td_to KJ72 rfl (by rw [show (if x2 < 0 then 0 else if (h 86 (ix ((10 + (3 * x2)) + 2))) = 4 then 1 else 0 : Int32) = _ from (if_neg q54).trans (if_pos q64)]) rfl
        refine td_icmp_ne (tgt := 50) dX10_firstAt_43 (by decide) (fun q43 => ?_) (fun q43 => ?_)
        · skip
          refine td_iconst (v := 0) dX10_firstAt_50 (by decide) ?_
          exact td_to KJ51 rfl (by rw [show (if (h 86 (ix ((10 + (3 * x3)) + 2))) = 4 then 1 else 0 : Int32) = _ from if_neg q43]) rfl
        · skip
          refine td_iconst (v := 1) dX10_firstAt_46 (by decide) ?_
          refine td_goto (tgt := 51) dX10_firstAt_47 (by decide) ?_
          exact td_to KJ51 rfl (by rw [show (if (h 86 (ix ((10 + (3 * x3)) + 2))) = 4 then 1 else 0 : Int32) = _ from if_pos q43]) rfl
