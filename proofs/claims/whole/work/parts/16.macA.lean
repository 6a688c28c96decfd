/-! Model: the first methods -/
set_option maxRecDepth 20000 in
set_option maxHeartbeats 4000000 in
theorem gX10_in_0 {G : td_G} {d : Nat} {Post : td_P} {w0 w2 w4 : Int64} {h : td_H} (K : ((if (lg_cmp w0 w2) < 0 then 0 else if 0 < (lg_cmp w0 w4) then 0 else 1 : Int32) = 0 ∨ (if (lg_cmp w0 w2) < 0 then 0 else if 0 < (lg_cmp w0 w4) then 0 else 1 : Int32) = 1) ∧ Post (some (.int (if (lg_cmp w0 w2) < 0 then 0 else if 0 < (lg_cmp w0 w4) then 0 else 1 : Int32))) h) : td_J G d mX10_in Post 0 [(0, .long w0), (2, .long w2), (4, .long w4)] [] h := by
  refine td_lload_n 0 dX10_in_0 rfl ?_
  refine td_lload_n 1 dX10_in_1 rfl ?_
  refine td_lcmp dX10_in_2 ?_
  have KJ18 : td_J G d mX10_in Post 18 [(0, .long w0), (2, .long w2), (4, .long w4)] [.int (if (lg_cmp w0 w2) < 0 then 0 else if 0 < (lg_cmp w0 w4) then 0 else 1 : Int32)] h := by
    obtain ⟨e18, K⟩ := K
    exact td_zreturn rfl (td_nb e18) dX10_in_18 K
  refine td_if_lt (tgt := 17) dX10_in_3 (by decide) (fun q3 => ?_) (fun q3 => ?_)
  · skip
    refine td_iconst (v := 0) dX10_in_17 (by decide) ?_
    exact td_to KJ18 rfl (by rw [show (if (lg_cmp w0 w2) < 0 then 0 else if 0 < (lg_cmp w0 w4) then 0 else 1 : Int32) = _ from if_pos q3]) rfl
  · skip
    refine td_lload_n 0 dX10_in_6 rfl ?_
    refine td_lload 2 dX10_in_7 rfl ?_
    refine td_lcmp dX10_in_9 ?_
    refine td_if_gt (tgt := 17) dX10_in_10 (by decide) (fun q10 => ?_) (fun q10 => ?_)
    · skip
      refine td_iconst (v := 0) dX10_in_17 (by decide) ?_
      exact td_to KJ18 rfl (by rw [show (if (lg_cmp w0 w2) < 0 then 0 else if 0 < (lg_cmp w0 w4) then 0 else 1 : Int32) = _ from (if_neg q3).trans (if_pos q10)]) rfl
    · skip
      refine td_iconst (v := 1) dX10_in_13 (by decide) ?_
      refine td_goto (tgt := 18) dX10_in_14 (by decide) ?_
      exact td_to KJ18 rfl (by rw [show (if (lg_cmp w0 w2) < 0 then 0 else if 0 < (lg_cmp w0 w4) then 0 else 1 : Int32) = _ from (if_neg q3).trans (if_neg q10)]) rfl
theorem c_in {G : td_G} {d : Nat} {h : td_H} (a b c : Int64) : td_C G d mX10_in [.long a, .long b, .long c] h (eR (b2i (b ≤ a ∧ a ≤ c)) h) := by
  refine td_entry rfl (Nat.le_of_ble_eq_true rfl) rfl (gX10_in_0 ?_)
  have e : (if (lg_cmp a b) < 0 then 0 else if 0 < (lg_cmp a c) then 0 else 1 : Int32) = b2i (b ≤ a ∧ a ≤ c) := by
    unfold b2i
    by_cases q1 : a < b
    · rw [if_pos ((lg_cmp_lt a b).mpr q1), if_neg (fun z => by rw [fa_lt64] at q1; rw [fa_le64, fa_le64] at z; omega)]
    · rw [if_neg (fun z => q1 ((lg_cmp_lt a b).mp z))]
      by_cases q2 : c < a
      · rw [if_pos ((lg_cmp_gt a c).mpr q2), if_neg (fun z => by rw [fa_lt64] at q2; rw [fa_le64, fa_le64] at z; omega)]
      · rw [if_neg (fun z => q2 ((lg_cmp_gt a c).mp z)), if_pos (by rw [fa_lt64] at q1 q2; rw [fa_le64, fa_le64]; omega)]
  rw [e]
  exact ⟨b2i_01 _, rfl, rfl⟩
set_option maxRecDepth 20000 in
set_option maxHeartbeats 4000000 in
theorem gX10_of_0 {G : td_G} {d : Nat} {Post : td_P} {x1 x2 : Int32} {h : td_H} (K : vp_in ((10 + (3 * x1)) + x2) 46 ∧ (Post (some (.int (h 86 (ix ((10 + (3 * x1)) + x2))))) h)) : td_J G d mX10_of Post 0 [(0, .ref 85), (1, .int x1), (2, .int x2)] [] h := by
  refine td_aload_n 0 dX10_of_0 rfl ?_
  refine gf_X10_7 rfl kp_85 dX10_of_1 ?_
  refine td_bipush (v := 10) dX10_of_4 (by decide) ?_
  refine td_iconst (v := 3) dX10_of_6 (by decide) ?_
  refine td_iload_n 1 dX10_of_7 rfl ?_
  refine td_imul dX10_of_8 ?_
  refine td_iadd dX10_of_9 ?_
  refine td_iload_n 2 dX10_of_10 rfl ?_
  refine td_iadd dX10_of_11 ?_
  obtain ⟨e12, K⟩ := K
  refine td_ialdc (j := (ix ((10 + (3 * x1)) + x2))) kp_86 (by decide) e12 rfl dX10_of_12 ?_
  exact td_ireturn rfl dX10_of_13 K
theorem c_of {G : td_G} {d : Nat} {h : td_H} (x y : Int32) (e : vp_in ((10 + (3 * x)) + y) 46) : td_C G d mX10_of [.ref 85, .int x, .int y] h (eR (h 86 (ix ((10 + (3 * x)) + y))) h) := by
  exact td_entry rfl (Nat.le_of_ble_eq_true rfl) rfl (gX10_of_0 ⟨e, rfl, rfl⟩)
set_option maxRecDepth 20000 in
set_option maxHeartbeats 4000000 in
theorem gX10_has_0 {G : td_G} {d : Nat} {Post : td_P} {x0 x1 : Int32} {h : td_H} (K : ((if ((jshr x0 x1) &&& 1) = 1 then 1 else 0 : Int32) = 0 ∨ (if ((jshr x0 x1) &&& 1) = 1 then 1 else 0 : Int32) = 1) ∧ Post (some (.int (if ((jshr x0 x1) &&& 1) = 1 then 1 else 0 : Int32))) h) : td_J G d mX10_has Post 0 [(0, .int x0), (1, .int x1)] [] h := by
  refine td_iload_n 0 dX10_has_0 rfl ?_
  refine td_iload_n 1 dX10_has_1 rfl ?_
  refine td_ishr dX10_has_2 ?_
  refine td_iconst (v := 1) dX10_has_3 (by decide) ?_
  refine td_iand dX10_has_4 ?_
  refine td_iconst (v := 1) dX10_has_5 (by decide) ?_
  have KJ14 : td_J G d mX10_has Post 14 [(0, .int x0), (1, .int x1)] [.int (if ((jshr x0 x1) &&& 1) = 1 then 1 else 0 : Int32)] h := by
    obtain ⟨e14, K⟩ := K
    exact td_zreturn rfl (td_nb e14) dX10_has_14 K
  refine td_icmp_ne (tgt := 13) dX10_has_6 (by decide) (fun q6 => ?_) (fun q6 => ?_)
  · skip
    refine td_iconst (v := 0) dX10_has_13 (by decide) ?_
    exact td_to KJ14 rfl (by rw [show (if ((jshr x0 x1) &&& 1) = 1 then 1 else 0 : Int32) = _ from if_neg q6]) rfl
  · skip
    refine td_iconst (v := 1) dX10_has_9 (by decide) ?_
    refine td_goto (tgt := 14) dX10_has_10 (by decide) ?_
    exact td_to KJ14 rfl (by rw [show (if ((jshr x0 x1) &&& 1) = 1 then 1 else 0 : Int32) = _ from if_pos q6]) rfl
theorem c_has {G : td_G} {d : Nat} {h : td_H} (x y : Int32) : td_C G d mX10_has [.int x, .int y] h (eR (b2i ((jshr x y) &&& 1 = 1)) h) := by
  exact td_entry rfl (Nat.le_of_ble_eq_true rfl) rfl (gX10_has_0 ⟨ite_01 _, rfl, rfl⟩)
set_option maxRecDepth 20000 in
set_option maxHeartbeats 4000000 in
theorem gX10_sizeOf_0 {G : td_G} {d : Nat} {Post : td_P} {x0 : Int32} {h : td_H} (K : Post (some (.int (if x0 = 1 then 2 else if x0 = 2 then 3 else 1 : Int32))) h) : td_J G d mX10_sizeOf Post 0 [(0, .int x0)] [] h := by
  refine td_iload_n 0 dX10_sizeOf_0 rfl ?_
  refine td_iconst (v := 1) dX10_sizeOf_1 (by decide) ?_
  have KJ19 : td_J G d mX10_sizeOf Post 19 [(0, .int x0)] [.int (if x0 = 1 then 2 else if x0 = 2 then 3 else 1 : Int32)] h := by
    exact td_ireturn rfl dX10_sizeOf_19 K
  refine td_icmp_ne (tgt := 9) dX10_sizeOf_2 (by decide) (fun q2 => ?_) (fun q2 => ?_)
  · skip
    refine td_iload_n 0 dX10_sizeOf_9 rfl ?_
    refine td_iconst (v := 2) dX10_sizeOf_10 (by decide) ?_
    refine td_icmp_ne (tgt := 18) dX10_sizeOf_11 (by decide) (fun q11 => ?_) (fun q11 => ?_)
    · skip
      refine td_iconst (v := 1) dX10_sizeOf_18 (by decide) ?_
      exact td_to KJ19 rfl (by rw [show (if x0 = 1 then 2 else if x0 = 2 then 3 else 1 : Int32) = _ from (if_neg q2).trans (if_neg q11)]) rfl
    · skip
      refine td_iconst (v := 3) dX10_sizeOf_14 (by decide) ?_
      refine td_goto (tgt := 19) dX10_sizeOf_15 (by decide) ?_
      exact td_to KJ19 rfl (by rw [show (if x0 = 1 then 2 else if x0 = 2 then 3 else 1 : Int32) = _ from (if_neg q2).trans (if_pos q11)]) rfl
  · skip
    refine td_iconst (v := 2) dX10_sizeOf_5 (by decide) ?_
    refine td_goto (tgt := 19) dX10_sizeOf_6 (by decide) ?_
    exact td_to KJ19 rfl (by rw [show (if x0 = 1 then 2 else if x0 = 2 then 3 else 1 : Int32) = _ from if_pos q2]) rfl
def szI (x : Int32) : Int32 := if x = 1 then 2 else if x = 2 then 3 else 1
theorem c_sizeOf {G : td_G} {d : Nat} {h : td_H} (x : Int32) : td_C G d mX10_sizeOf [.int x] h (eR (szI x) h) := by
  exact td_entry rfl (Nat.le_of_ble_eq_true rfl) rfl (gX10_sizeOf_0 ⟨rfl, rfl⟩)
set_option maxRecDepth 20000 in
set_option maxHeartbeats 4000000 in
theorem gX10_pushOf_0 {G : td_G} {d : Nat} {Post : td_P} {x0 : Int32} {h : td_H} (K : Post (some (.int (if x0 = 1 then 1 else if x0 = 2 then 1 else if x0 = 3 then 0 else if x0 = 4 then 4 else 2 : Int32))) h) : td_J G d mX10_pushOf Post 0 [(0, .int x0)] [] h := by
  refine td_iload_n 0 dX10_pushOf_0 rfl ?_
  refine td_iconst (v := 1) dX10_pushOf_1 (by decide) ?_
  have KJ33 : td_J G d mX10_pushOf Post 33 [(0, .int x0)] [.int (if x0 = 1 then 1 else if x0 = 2 then 1 else if x0 = 3 then 0 else if x0 = 4 then 4 else 2 : Int32)] h := by
    exact td_ireturn rfl dX10_pushOf_33 K
  refine td_icmp_eq (tgt := 10) dX10_pushOf_2 (by decide) (fun q2 => ?_) (fun q2 => ?_)
  · skip
    refine td_iconst (v := 1) dX10_pushOf_10 (by decide) ?_
    refine td_goto (tgt := 33) dX10_pushOf_11 (by decide) ?_
    exact td_to KJ33 rfl (by rw [show (if x0 = 1 then 1 else if x0 = 2 then 1 else if x0 = 3 then 0 else if x0 = 4 then 4 else 2 : Int32) = _ from if_pos q2]) rfl
  · skip
    refine td_iload_n 0 dX10_pushOf_5 rfl ?_
    refine td_iconst (v := 2) dX10_pushOf_6 (by decide) ?_
    refine td_icmp_ne (tgt := 14) dX10_pushOf_7 (by decide) (fun q7 => ?_) (fun q7 => ?_)
    · skip
      refine td_iload_n 0 dX10_pushOf_14 rfl ?_
      refine td_iconst (v := 3) dX10_pushOf_15 (by decide) ?_
      refine td_icmp_ne (tgt := 23) dX10_pushOf_16 (by decide) (fun q16 => ?_) (fun q16 => ?_)
      · skip
        refine td_iload_n 0 dX10_pushOf_23 rfl ?_
        refine td_iconst (v := 4) dX10_pushOf_24 (by decide) ?_
        refine td_icmp_ne (tgt := 32) dX10_pushOf_25 (by decide) (fun q25 => ?_) (fun q25 => ?_)
        · skip
          refine td_iconst (v := 2) dX10_pushOf_32 (by decide) ?_
          exact td_to KJ33 rfl (by rw [show (if x0 = 1 then 1 else if x0 = 2 then 1 else if x0 = 3 then 0 else if x0 = 4 then 4 else 2 : Int32) = _ from (if_neg q2).trans ((if_neg q7).trans ((if_neg q16).trans (if_neg q25)))]) rfl
        · skip
          refine td_iconst (v := 4) dX10_pushOf_28 (by decide) ?_
          refine td_goto (tgt := 33) dX10_pushOf_29 (by decide) ?_
          exact td_to KJ33 rfl (by rw [show (if x0 = 1 then 1 else if x0 = 2 then 1 else if x0 = 3 then 0 else if x0 = 4 then 4 else 2 : Int32) = _ from (if_neg q2).trans ((if_neg q7).trans ((if_neg q16).trans (if_pos q25)))]) rfl
      · skip
        refine td_iconst (v := 0) dX10_pushOf_19 (by decide) ?_
        refine td_goto (tgt := 33) dX10_pushOf_20 (by decide) ?_
        exact td_to KJ33 rfl (by rw [show (if x0 = 1 then 1 else if x0 = 2 then 1 else if x0 = 3 then 0 else if x0 = 4 then 4 else 2 : Int32) = _ from (if_neg q2).trans ((if_neg q7).trans (if_pos q16))]) rfl
    · skip
      refine td_iconst (v := 1) dX10_pushOf_10 (by decide) ?_
      refine td_goto (tgt := 33) dX10_pushOf_11 (by decide) ?_
      exact td_to KJ33 rfl (by rw [show (if x0 = 1 then 1 else if x0 = 2 then 1 else if x0 = 3 then 0 else if x0 = 4 then 4 else 2 : Int32) = _ from (if_neg q2).trans (if_pos q7)]) rfl
def puI (x : Int32) : Int32 := if x = 1 then 1 else if x = 2 then 1 else if x = 3 then 0 else if x = 4 then 4 else 2
theorem c_pushOf {G : td_G} {d : Nat} {h : td_H} (x : Int32) : td_C G d mX10_pushOf [.int x] h (eR (puI x) h) := by
  exact td_entry rfl (Nat.le_of_ble_eq_true rfl) rfl (gX10_pushOf_0 ⟨rfl, rfl⟩)
set_option maxRecDepth 20000 in
set_option maxHeartbeats 4000000 in
theorem gX10_isPerson_0 {G : td_G} {d : Nat} {Post : td_P} {x1 : Int32} {h : td_H} (K : ((b2i (0 ≤ x1.toInt64 ∧ x1.toInt64 ≤ (((h 86 9) - 1).toInt64))) = 0 ∨ (b2i (0 ≤ x1.toInt64 ∧ x1.toInt64 ≤ (((h 86 9) - 1).toInt64))) = 1) ∧ Post (some (.int (b2i (0 ≤ x1.toInt64 ∧ x1.toInt64 ≤ (((h 86 9) - 1).toInt64))))) h) : td_J G (d + 1) mX10_isPerson Post 0 [(0, .ref 85), (1, .int x1)] [] h := by
  refine td_iload_n 1 dX10_isPerson_0 rfl ?_
  refine td_i2l dX10_isPerson_1 ?_
  refine td_lconst (v := 0) dX10_isPerson_2 (by decide) ?_
  refine td_aload_n 0 dX10_isPerson_3 rfl ?_
  refine gf_X10_7 rfl kp_85 dX10_isPerson_4 ?_
  refine td_bipush (v := 9) dX10_isPerson_7 (by decide) ?_
  refine td_ialdc (j := 9) kp_86 (by decide) (by unfold vp_in; decide) (by decide) dX10_isPerson_9 ?_
  refine td_iconst (v := 1) dX10_isPerson_10 (by decide) ?_
  refine td_isub dX10_isPerson_11 ?_
  refine td_i2l dX10_isPerson_12 ?_
  refine cl_X10_75 rfl dX10_isPerson_13 (Nat.le_of_ble_eq_true rfl) (c_in x1.toInt64 0 (((h 86 9) - 1).toInt64)) (eR_k ?_)
  refine td_eqs (st2 := [.int (b2i (0 ≤ x1.toInt64 ∧ x1.toInt64 ≤ (((h 86 9) - 1).toInt64)))]) rfl ?_
  obtain ⟨e16, K⟩ := K
  exact td_zreturn rfl (td_nb e16) dX10_isPerson_16 K
theorem c_isPerson {G : td_G} {d : Nat} {h : td_H} (x : Int32) : td_C G (d + 1) mX10_isPerson [.ref 85, .int x] h (eR (b2i (0 ≤ x.toInt64 ∧ x.toInt64 ≤ (((h 86 9) - 1).toInt64))) h) := by
  exact td_entry rfl (Nat.le_of_ble_eq_true rfl) rfl (gX10_isPerson_0 ⟨b2i_01 _, rfl, rfl⟩)
set_option maxRecDepth 20000 in
set_option maxHeartbeats 4000000 in
theorem gX10_isPart_0 {G : td_G} {d : Nat} {Post : td_P} {x1 : Int32} {h : td_H} (K : ((b2i (0 ≤ x1.toInt64 ∧ x1.toInt64 ≤ (((h 86 0) - 1).toInt64))) = 0 ∨ (b2i (0 ≤ x1.toInt64 ∧ x1.toInt64 ≤ (((h 86 0) - 1).toInt64))) = 1) ∧ Post (some (.int (b2i (0 ≤ x1.toInt64 ∧ x1.toInt64 ≤ (((h 86 0) - 1).toInt64))))) h) : td_J G (d + 1) mX10_isPart Post 0 [(0, .ref 85), (1, .int x1)] [] h := by
  refine td_iload_n 1 dX10_isPart_0 rfl ?_
  refine td_i2l dX10_isPart_1 ?_
  refine td_lconst (v := 0) dX10_isPart_2 (by decide) ?_
  refine td_aload_n 0 dX10_isPart_3 rfl ?_
  refine gf_X10_7 rfl kp_85 dX10_isPart_4 ?_
  refine td_iconst (v := 0) dX10_isPart_7 (by decide) ?_
  refine td_ialdc (j := 0) kp_86 (by decide) (by unfold vp_in; decide) (by decide) dX10_isPart_8 ?_
  refine td_iconst (v := 1) dX10_isPart_9 (by decide) ?_
  refine td_isub dX10_isPart_10 ?_
  refine td_i2l dX10_isPart_11 ?_
  refine cl_X10_75 rfl dX10_isPart_12 (Nat.le_of_ble_eq_true rfl) (c_in x1.toInt64 0 (((h 86 0) - 1).toInt64)) (eR_k ?_)
  refine td_eqs (st2 := [.int (b2i (0 ≤ x1.toInt64 ∧ x1.toInt64 ≤ (((h 86 0) - 1).toInt64)))]) rfl ?_
  obtain ⟨e15, K⟩ := K
  exact td_zreturn rfl (td_nb e15) dX10_isPart_15 K
theorem c_isPart {G : td_G} {d : Nat} {h : td_H} (x : Int32) : td_C G (d + 1) mX10_isPart [.ref 85, .int x] h (eR (b2i (0 ≤ x.toInt64 ∧ x.toInt64 ≤ (((h 86 0) - 1).toInt64))) h) := by
  exact td_entry rfl (Nat.le_of_ble_eq_true rfl) rfl (gX10_isPart_0 ⟨b2i_01 _, rfl, rfl⟩)
set_option maxRecDepth 20000 in
set_option maxHeartbeats 4000000 in
theorem gX10_leastOf_0 {G : td_G} {d : Nat} {Post : td_P} {x0 : Int32} {h : td_H} (K : Post (some (.int (if x0 = 0 then 3 else if x0 = 3 then 0 else if x0 = 6 then 0 else if x0 = 8 then 0 else 1 : Int32))) h) : td_J G d mX10_leastOf Post 0 [(0, .int x0)] [] h := by
  refine td_iload_n 0 dX10_leastOf_0 rfl ?_
  have KJ30 : td_J G d mX10_leastOf Post 30 [(0, .int x0)] [.int (if x0 = 0 then 3 else if x0 = 3 then 0 else if x0 = 6 then 0 else if x0 = 8 then 0 else 1 : Int32)] h := by
    exact td_ireturn rfl dX10_leastOf_30 K
  refine td_if_ne (tgt := 8) dX10_leastOf_1 (by decide) (fun q1 => ?_) (fun q1 => ?_)
  · skip
    refine td_iload_n 0 dX10_leastOf_8 rfl ?_
    refine td_iconst (v := 3) dX10_leastOf_9 (by decide) ?_
    refine td_icmp_eq (tgt := 25) dX10_leastOf_10 (by decide) (fun q10 => ?_) (fun q10 => ?_)
    · skip
      refine td_iconst (v := 0) dX10_leastOf_25 (by decide) ?_
      refine td_goto (tgt := 30) dX10_leastOf_26 (by decide) ?_
      exact td_to KJ30 rfl (by rw [show (if x0 = 0 then 3 else if x0 = 3 then 0 else if x0 = 6 then 0 else if x0 = 8 then 0 else 1 : Int32) = _ from (if_neg q1).trans (if_pos q10)]) rfl
    · skip
      refine td_iload_n 0 dX10_leastOf_13 rfl ?_
      refine td_bipush (v := 6) dX10_leastOf_14 (by decide) ?_
      refine td_icmp_eq (tgt := 25) dX10_leastOf_16 (by decide) (fun q16 => ?_) (fun q16 => ?_)
      · skip
        refine td_iconst (v := 0) dX10_leastOf_25 (by decide) ?_
        refine td_goto (tgt := 30) dX10_leastOf_26 (by decide) ?_
        exact td_to KJ30 rfl (by rw [show (if x0 = 0 then 3 else if x0 = 3 then 0 else if x0 = 6 then 0 else if x0 = 8 then 0 else 1 : Int32) = _ from (if_neg q1).trans ((if_neg q10).trans (if_pos q16))]) rfl
      · skip
        refine td_iload_n 0 dX10_leastOf_19 rfl ?_
        refine td_bipush (v := 8) dX10_leastOf_20 (by decide) ?_
        refine td_icmp_ne (tgt := 29) dX10_leastOf_22 (by decide) (fun q22 => ?_) (fun q22 => ?_)
        · skip
          refine td_iconst (v := 1) dX10_leastOf_29 (by decide) ?_
          exact td_to KJ30 rfl (by rw [show (if x0 = 0 then 3 else if x0 = 3 then 0 else if x0 = 6 then 0 else if x0 = 8 then 0 else 1 : Int32) = _ from (if_neg q1).trans ((if_neg q10).trans ((if_neg q16).trans (if_neg q22)))]) rfl
        · skip
          refine td_iconst (v := 0) dX10_leastOf_25 (by decide) ?_
          refine td_goto (tgt := 30) dX10_leastOf_26 (by decide) ?_
          exact td_to KJ30 rfl (by rw [show (if x0 = 0 then 3 else if x0 = 3 then 0 else if x0 = 6 then 0 else if x0 = 8 then 0 else 1 : Int32) = _ from (if_neg q1).trans ((if_neg q10).trans ((if_neg q16).trans (if_pos q22)))]) rfl
  · skip
    refine td_iconst (v := 3) dX10_leastOf_4 (by decide) ?_
    refine td_goto (tgt := 30) dX10_leastOf_5 (by decide) ?_
    exact td_to KJ30 rfl (by rw [show (if x0 = 0 then 3 else if x0 = 3 then 0 else if x0 = 6 then 0 else if x0 = 8 then 0 else 1 : Int32) = _ from if_pos q1]) rfl
set_option maxRecDepth 20000 in
set_option maxHeartbeats 4000000 in
theorem gX10_mostOf_0 {G : td_G} {d : Nat} {Post : td_P} {x0 : Int32} {h : td_H} (K : Post (some (.int (if x0 = 0 then 4 else if x0 = 1 then 3 else if x0 = 5 then 3 else if x0 = 2 then 6 else if x0 = 3 then 20 else if x0 = 8 then 120 else 9 : Int32))) h) : td_J G d mX10_mostOf Post 0 [(0, .int x0)] [] h := by
  refine td_iload_n 0 dX10_mostOf_0 rfl ?_
  have KJ55 : td_J G d mX10_mostOf Post 55 [(0, .int x0)] [.int (if x0 = 0 then 4 else if x0 = 1 then 3 else if x0 = 5 then 3 else if x0 = 2 then 6 else if x0 = 3 then 20 else if x0 = 8 then 120 else 9 : Int32)] h := by
    exact td_ireturn rfl dX10_mostOf_55 K
  refine td_if_ne (tgt := 8) dX10_mostOf_1 (by decide) (fun q1 => ?_) (fun q1 => ?_)
  · skip
    refine td_iload_n 0 dX10_mostOf_8 rfl ?_
    refine td_iconst (v := 1) dX10_mostOf_9 (by decide) ?_
    refine td_icmp_eq (tgt := 18) dX10_mostOf_10 (by decide) (fun q10 => ?_) (fun q10 => ?_)
    · skip
      refine td_iconst (v := 3) dX10_mostOf_18 (by decide) ?_
      refine td_goto (tgt := 55) dX10_mostOf_19 (by decide) ?_
      exact td_to KJ55 rfl (by rw [show (if x0 = 0 then 4 else if x0 = 1 then 3 else if x0 = 5 then 3 else if x0 = 2 then 6 else if x0 = 3 then 20 else if x0 = 8 then 120 else 9 : Int32) = _ from (if_neg q1).trans (if_pos q10)]) rfl
    · skip
      refine td_iload_n 0 dX10_mostOf_13 rfl ?_
      refine td_iconst (v := 5) dX10_mostOf_14 (by decide) ?_
      refine td_icmp_ne (tgt := 22) dX10_mostOf_15 (by decide) (fun q15 => ?_) (fun q15 => ?_)
      · skip
        refine td_iload_n 0 dX10_mostOf_22 rfl ?_
        refine td_iconst (v := 2) dX10_mostOf_23 (by decide) ?_
        refine td_icmp_ne (tgt := 32) dX10_mostOf_24 (by decide) (fun q24 => ?_) (fun q24 => ?_)
        · skip
          refine td_iload_n 0 dX10_mostOf_32 rfl ?_
          refine td_iconst (v := 3) dX10_mostOf_33 (by decide) ?_
          refine td_icmp_ne (tgt := 42) dX10_mostOf_34 (by decide) (fun q34 => ?_) (fun q34 => ?_)
          · skip
            refine td_iload_n 0 dX10_mostOf_42 rfl ?_
            refine td_bipush (v := 8) dX10_mostOf_43 (by decide) ?_
            refine td_icmp_ne (tgt := 53) dX10_mostOf_45 (by decide) (fun q45 => ?_) (fun q45 => ?_)
            · skip
              refine td_bipush (v := 9) dX10_mostOf_53 (by decide) ?_
              exact td_to KJ55 rfl (by rw [show (if x0 = 0 then 4 else if x0 = 1 then 3 else if x0 = 5 then 3 else if x0 = 2 then 6 else if x0 = 3 then 20 else if x0 = 8 then 120 else 9 : Int32) = _ from (if_neg q1).trans ((if_neg q10).trans ((if_neg q15).trans ((if_neg q24).trans ((if_neg q34).trans (if_neg q45)))))]) rfl
            · skip
              refine td_bipush (v := 120) dX10_mostOf_48 (by decide) ?_
              refine td_goto (tgt := 55) dX10_mostOf_50 (by decide) ?_
              exact td_to KJ55 rfl (by rw [show (if x0 = 0 then 4 else if x0 = 1 then 3 else if x0 = 5 then 3 else if x0 = 2 then 6 else if x0 = 3 then 20 else if x0 = 8 then 120 else 9 : Int32) = _ from (if_neg q1).trans ((if_neg q10).trans ((if_neg q15).trans ((if_neg q24).trans ((if_neg q34).trans (if_pos q45)))))]) rfl
          · skip
            refine td_bipush (v := 20) dX10_mostOf_37 (by decide) ?_
            refine td_goto (tgt := 55) dX10_mostOf_39 (by decide) ?_
            exact td_to KJ55 rfl (by rw [show (if x0 = 0 then 4 else if x0 = 1 then 3 else if x0 = 5 then 3 else if x0 = 2 then 6 else if x0 = 3 then 20 else if x0 = 8 then 120 else 9 : Int32) = _ from (if_neg q1).trans ((if_neg q10).trans ((if_neg q15).trans ((if_neg q24).trans (if_pos q34))))]) rfl
        · skip
          refine td_bipush (v := 6) dX10_mostOf_27 (by decide) ?_
          refine td_goto (tgt := 55) dX10_mostOf_29 (by decide) ?_
          exact td_to KJ55 rfl (by rw [show (if x0 = 0 then 4 else if x0 = 1 then 3 else if x0 = 5 then 3 else if x0 = 2 then 6 else if x0 = 3 then 20 else if x0 = 8 then 120 else 9 : Int32) = _ from (if_neg q1).trans ((if_neg q10).trans ((if_neg q15).trans (if_pos q24)))]) rfl
      · skip
        refine td_iconst (v := 3) dX10_mostOf_18 (by decide) ?_
        refine td_goto (tgt := 55) dX10_mostOf_19 (by decide) ?_
        exact td_to KJ55 rfl (by rw [show (if x0 = 0 then 4 else if x0 = 1 then 3 else if x0 = 5 then 3 else if x0 = 2 then 6 else if x0 = 3 then 20 else if x0 = 8 then 120 else 9 : Int32) = _ from (if_neg q1).trans ((if_neg q10).trans (if_pos q15))]) rfl
  · skip
    refine td_iconst (v := 4) dX10_mostOf_4 (by decide) ?_
    refine td_goto (tgt := 55) dX10_mostOf_5 (by decide) ?_
    exact td_to KJ55 rfl (by rw [show (if x0 = 0 then 4 else if x0 = 1 then 3 else if x0 = 5 then 3 else if x0 = 2 then 6 else if x0 = 3 then 20 else if x0 = 8 then 120 else 9 : Int32) = _ from if_pos q1]) rfl
theorem c_leastOf {G : td_G} {d : Nat} {h : td_H} (x : Int32) : td_C G d mX10_leastOf [.int x] h (eR (if x = 0 then 3 else if x = 3 then 0 else if x = 6 then 0 else if x = 8 then 0 else 1) h) := by
  exact td_entry rfl (Nat.le_of_ble_eq_true rfl) rfl (gX10_leastOf_0 ⟨rfl, rfl⟩)
theorem c_mostOf {G : td_G} {d : Nat} {h : td_H} (x : Int32) : td_C G d mX10_mostOf [.int x] h (eR (if x = 0 then 4 else if x = 1 then 3 else if x = 5 then 3 else if x = 2 then 6 else if x = 3 then 20 else if x = 8 then 120 else 9) h) := by
  exact td_entry rfl (Nat.le_of_ble_eq_true rfl) rfl (gX10_mostOf_0 ⟨rfl, rfl⟩)
set_option maxRecDepth 20000 in
set_option maxHeartbeats 4000000 in
theorem gX10_through_0 {G : td_G} {d : Nat} {Post : td_P} {x1 x2 : Int32} {h : td_H} (K : vp_in x1 12 ∧ (Post none (hu (hu h 91 (ix x1) 3) 94 (ix x1) x2))) : td_J G d mX10_through Post 0 [(0, .ref 85), (1, .int x1), (2, .int x2)] [] h := by
  refine td_aload_n 0 dX10_through_0 rfl ?_
  refine gf_X10_25 rfl kp_85 dX10_through_1 ?_
  refine td_iload_n 1 dX10_through_4 rfl ?_
  refine td_iconst (v := 3) dX10_through_5 (by decide) ?_
  obtain ⟨e6, K⟩ := K
  refine td_iastc (j := (ix x1)) kp_91 (by decide) e6 rfl dX10_through_6 ?_
  refine td_aload_n 0 dX10_through_7 rfl ?_
  refine gf_X10_34 rfl kp_85 dX10_through_8 ?_
  refine td_iload_n 1 dX10_through_11 rfl ?_
  refine td_iload_n 2 dX10_through_12 rfl ?_
  refine td_iastc (j := (ix x1)) kp_94 (by decide) e6 rfl dX10_through_13 ?_
  exact td_return rfl dX10_through_14 K
theorem c_through {G : td_G} {d : Nat} {h : td_H} (x t : Int32) (e : vp_in x 12) : td_C G d mX10_through [.ref 85, .int x, .int t] h (eV (hu (hu h 91 (ix x) 3) 94 (ix x) t)) := by
  exact td_entry rfl (Nat.le_of_ble_eq_true rfl) rfl (gX10_through_0 ⟨e, rfl, rfl⟩)
