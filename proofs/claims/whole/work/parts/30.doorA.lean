/-! Door: small ones, the plan -/
set_option maxRecDepth 20000 in
set_option maxHeartbeats 4000000 in
theorem gX9_isIn_0 {G : td_G} {d : Nat} {Post : td_P} {x0 x1 : Int32} {h : td_H} (K : ((if x0 < 0 then 0 else if x1 ≤ x0 then 0 else 1 : Int32) = 0 ∨ (if x0 < 0 then 0 else if x1 ≤ x0 then 0 else 1 : Int32) = 1) ∧ Post (some (.int (if x0 < 0 then 0 else if x1 ≤ x0 then 0 else 1 : Int32))) h) : td_J G d mX9_isIn Post 0 [(0, .int x0), (1, .int x1)] [] h := by
  refine td_iload_n 0 dX9_isIn_0 rfl ?_
  have KJ14 : td_J G d mX9_isIn Post 14 [(0, .int x0), (1, .int x1)] [.int (if x0 < 0 then 0 else if x1 ≤ x0 then 0 else 1 : Int32)] h := by
    obtain ⟨e14, K⟩ := K
    exact td_zreturn rfl (td_nb e14) dX9_isIn_14 K
  refine td_if_lt (tgt := 13) dX9_isIn_1 (by decide) (fun q1 => ?_) (fun q1 => ?_)
  · skip
    refine td_iconst (v := 0) dX9_isIn_13 (by decide) ?_
    exact td_to KJ14 rfl (by rw [show (if x0 < 0 then 0 else if x1 ≤ x0 then 0 else 1 : Int32) = _ from if_pos q1]) rfl
  · skip
    refine td_iload_n 0 dX9_isIn_4 rfl ?_
    refine td_iload_n 1 dX9_isIn_5 rfl ?_
    refine td_icmp_ge (tgt := 13) dX9_isIn_6 (by decide) (fun q6 => ?_) (fun q6 => ?_)
    · skip
      refine td_iconst (v := 0) dX9_isIn_13 (by decide) ?_
      exact td_to KJ14 rfl (by rw [show (if x0 < 0 then 0 else if x1 ≤ x0 then 0 else 1 : Int32) = _ from (if_neg q1).trans (if_pos q6)]) rfl
    · skip
      refine td_iconst (v := 1) dX9_isIn_9 (by decide) ?_
      refine td_goto (tgt := 14) dX9_isIn_10 (by decide) ?_
      exact td_to KJ14 rfl (by rw [show (if x0 < 0 then 0 else if x1 ≤ x0 then 0 else 1 : Int32) = _ from (if_neg q1).trans (if_neg q6)]) rfl
theorem c_isIn {G : td_G} {d : Nat} {h : td_H} (x y : Int32) : td_C G d mX9_isIn [.int x, .int y] h (eR (b2i (0 ≤ x ∧ x < y)) h) := by
  have e : (if x < 0 then 0 else if y ≤ x then 0 else 1 : Int32) = b2i (0 ≤ x ∧ x < y) := by
    unfold b2i
    have f1 := fa_lt x 0
    have f2 := fa_le y x
    have f3 := fa_le 0 x
    have f4 := fa_lt x y
    rw [Int32.toInt_zero] at f1 f3
    by_cases q1 : x < 0
    · rw [if_pos q1, if_neg (by rw [f1] at q1; rw [f3]; omega)]
    · by_cases q2 : y ≤ x
      · rw [if_neg q1, if_pos q2, if_neg (by rw [f2] at q2; rw [f4]; omega)]
      · rw [if_neg q1, if_neg q2, if_pos (by rw [f1] at q1; rw [f2] at q2; rw [f3, f4]; omega)]
  refine td_entry rfl (Nat.le_of_ble_eq_true rfl) rfl (gX9_isIn_0 ?_)
  rw [e]
  exact ⟨b2i_01 _, rfl, rfl⟩
/-- the plan at place q is c -/
def dP (c : nH) (q : Nat) (h : td_H) : Prop := wfC c ∧ (∀ i, i < 9 → h (q + 1) i = nI (c 0 i)) ∧ h q 4 = nI (c 1 0) ∧ ∀ p, p < c 1 0 → h (q + 2) p = nI (c 4 p) ∧ h (q + 3) p = nI (c 2 p) ∧ h (q + 4) p = nI (c 3 p)
theorem is_in {x : Int32} {n : Nat} (hn : n < 2 ^ 31) : (0 ≤ x ∧ x < nI n) ↔ vp_in x n := by
  rw [vp_in_iff, fa_le, fa_lt, nI_toInt hn, Int32.toInt_zero]
set_option maxRecDepth 20000 in
set_option maxHeartbeats 4000000 in
theorem gX5_has_0 {G : td_G} {d : Nat} {Post : td_P} {k0 : Nat} {x1 : Int32} {h : td_H} (hk0 : td_kd k0 = 5) (K : ((b2i (0 ≤ x1 ∧ x1 < (h k0 4))) = 0 ∨ (b2i (0 ≤ x1 ∧ x1 < (h k0 4))) = 1) ∧ Post (some (.int (b2i (0 ≤ x1 ∧ x1 < (h k0 4))))) h) : td_J G (d + 1) mX5_has Post 0 [(0, .ref k0), (1, .int x1)] [] h := by
  refine td_iload_n 1 dX5_has_0 rfl ?_
  refine td_aload_n 0 dX5_has_1 rfl ?_
  refine gf_X5_33 rfl hk0 dX5_has_2 ?_
  refine cl_X5_37 rfl dX5_has_5 (Nat.le_of_ble_eq_true rfl) (c_isIn x1 (h k0 4)) (eR_k ?_)
  refine td_eqs (st2 := [.int (b2i (0 ≤ x1 ∧ x1 < (h k0 4)))]) rfl ?_
  obtain ⟨e8, K⟩ := K
  exact td_zreturn rfl (td_nb e8) dX5_has_8 K
theorem c_P_has {G : td_G} {d : Nat} {h : td_H} {k : Nat} (hk : td_kd k = 5) (x : Int32) : td_C G (d + 1) mX5_has [.ref k, .int x] h (eR (b2i (0 ≤ x ∧ x < h k 4)) h) := td_entry rfl (Nat.le_of_ble_eq_true rfl) rfl (gX5_has_0 hk ⟨b2i_01 _, rfl, rfl⟩)
set_option maxRecDepth 20000 in
set_option maxHeartbeats 4000000 in
theorem gX5_everyone_0 {G : td_G} {d : Nat} {Post : td_P} {k0 : Nat} {h : td_H} (hk0 : td_kd k0 = 5) (K : Post (some (.int ((jshl 1 (h k0 4)) - 1))) h) : td_J G d mX5_everyone Post 0 [(0, .ref k0)] [] h := by
  refine td_iconst (v := 1) dX5_everyone_0 (by decide) ?_
  refine td_aload_n 0 dX5_everyone_1 rfl ?_
  refine gf_X5_33 rfl hk0 dX5_everyone_2 ?_
  refine td_ishl dX5_everyone_5 ?_
  refine td_iconst (v := 1) dX5_everyone_6 (by decide) ?_
  refine td_isub dX5_everyone_7 ?_
  exact td_ireturn rfl dX5_everyone_8 K
theorem c_P_everyone {G : td_G} {d : Nat} {h : td_H} {k : Nat} (hk : td_kd k = 5) : td_C G d mX5_everyone [.ref k] h (eR ((jshl 1 (h k 4)) - 1) h) := td_entry rfl (Nat.le_of_ble_eq_true rfl) rfl (gX5_everyone_0 hk ⟨rfl, rfl⟩)
set_option maxRecDepth 20000 in
set_option maxHeartbeats 4000000 in
theorem gX5_sizeOf_0 {G : td_G} {d : Nat} {Post : td_P} {k0 : Nat} {x1 : Int32} {h : td_H} (hk0 : td_kd k0 = 5) (K : vp_in x1 12 ∧ (vp_in (h (k0 + 4) (ix x1)) 6 ∧ (Post (some (.int ((td_st 3).getD (ix (h (k0 + 4) (ix x1))) 0))) h))) : td_J G d mX5_sizeOf Post 0 [(0, .ref k0), (1, .int x1)] [] h := by
  refine gs_X5_41 rfl dX5_sizeOf_0 ?_
  refine td_aload_n 0 dX5_sizeOf_3 rfl ?_
  refine gf_X5_21 rfl hk0 dX5_sizeOf_4 ?_
  refine td_iload_n 1 dX5_sizeOf_7 rfl ?_
  obtain ⟨e8, K⟩ := K
  refine td_ialdc (j := (ix x1)) (kd_5_3 hk0) (by decide) e8 rfl dX5_sizeOf_8 ?_
  obtain ⟨e9, K⟩ := K
  refine td_tic (t := 3) (j := (ix (h (k0 + 4) (ix x1)))) (by decide) e9 rfl dX5_sizeOf_9 ?_
  exact td_ireturn rfl dX5_sizeOf_10 K
set_option maxRecDepth 20000 in
set_option maxHeartbeats 4000000 in
theorem gX5_pushOf_0 {G : td_G} {d : Nat} {Post : td_P} {k0 : Nat} {x1 : Int32} {h : td_H} (hk0 : td_kd k0 = 5) (K : vp_in x1 12 ∧ (vp_in (h (k0 + 4) (ix x1)) 6 ∧ (Post (some (.int ((td_st 4).getD (ix (h (k0 + 4) (ix x1))) 0))) h))) : td_J G d mX5_pushOf Post 0 [(0, .ref k0), (1, .int x1)] [] h := by
  refine gs_X5_44 rfl dX5_pushOf_0 ?_
  refine td_aload_n 0 dX5_pushOf_3 rfl ?_
  refine gf_X5_21 rfl hk0 dX5_pushOf_4 ?_
  refine td_iload_n 1 dX5_pushOf_7 rfl ?_
  obtain ⟨e8, K⟩ := K
  refine td_ialdc (j := (ix x1)) (kd_5_3 hk0) (by decide) e8 rfl dX5_pushOf_8 ?_
  obtain ⟨e9, K⟩ := K
  refine td_tic (t := 4) (j := (ix (h (k0 + 4) (ix x1)))) (by decide) e9 rfl dX5_pushOf_9 ?_
  exact td_ireturn rfl dX5_pushOf_10 K
set_option maxRecDepth 20000 in
set_option maxHeartbeats 4000000 in
theorem gX5_isLaden_0 {G : td_G} {d : Nat} {Post : td_P} {k0 : Nat} {x1 : Int32} {h : td_H} (hk0 : td_kd k0 = 5) (K : vp_in x1 12 ∧ (((if (h (k0 + 4) (ix x1)) = 1 then 1 else if (h (k0 + 4) (ix x1)) = 2 then 1 else 0 : Int32) = 0 ∨ (if (h (k0 + 4) (ix x1)) = 1 then 1 else if (h (k0 + 4) (ix x1)) = 2 then 1 else 0 : Int32) = 1) ∧ Post (some (.int (if (h (k0 + 4) (ix x1)) = 1 then 1 else if (h (k0 + 4) (ix x1)) = 2 then 1 else 0 : Int32))) h)) : td_J G d mX5_isLaden Post 0 [(0, .ref k0), (1, .int x1)] [] h := by
  refine td_aload_n 0 dX5_isLaden_0 rfl ?_
  refine gf_X5_21 rfl hk0 dX5_isLaden_1 ?_
  refine td_iload_n 1 dX5_isLaden_4 rfl ?_
  obtain ⟨e5, K⟩ := K
  refine td_ialdc (j := (ix x1)) (kd_5_3 hk0) (by decide) e5 rfl dX5_isLaden_5 ?_
  refine td_iconst (v := 1) dX5_isLaden_6 (by decide) ?_
  have KJ25 : td_J G d mX5_isLaden Post 25 [(0, .ref k0), (1, .int x1)] [.int (if (h (k0 + 4) (ix x1)) = 1 then 1 else if (h (k0 + 4) (ix x1)) = 2 then 1 else 0 : Int32)] h := by
    obtain ⟨e25, K⟩ := K
    exact td_zreturn rfl (td_nb e25) dX5_isLaden_25 K
  refine td_icmp_eq (tgt := 20) dX5_isLaden_7 (by decide) (fun q7 => ?_) (fun q7 => ?_)
  · skip
    refine td_iconst (v := 1) dX5_isLaden_20 (by decide) ?_
    refine td_goto (tgt := 25) dX5_isLaden_21 (by decide) ?_
    exact td_to KJ25 rfl (by rw [show (if (h (k0 + 4) (ix x1)) = 1 then 1 else if (h (k0 + 4) (ix x1)) = 2 then 1 else 0 : Int32) = _ from if_pos q7]) rfl
  · skip
    refine td_aload_n 0 dX5_isLaden_10 rfl ?_
    refine gf_X5_21 rfl hk0 dX5_isLaden_11 ?_
    refine td_iload_n 1 dX5_isLaden_14 rfl ?_
    refine td_ialdc (j := (ix x1)) (kd_5_3 hk0) (by decide) e5 rfl dX5_isLaden_15 ?_
    refine td_iconst (v := 2) dX5_isLaden_16 (by decide) ?_
    refine td_icmp_ne (tgt := 24) dX5_isLaden_17 (by decide) (fun q17 => ?_) (fun q17 => ?_)
    · skip
      refine td_iconst (v := 0) dX5_isLaden_24 (by decide) ?_
      exact td_to KJ25 rfl (by rw [show (if (h (k0 + 4) (ix x1)) = 1 then 1 else if (h (k0 + 4) (ix x1)) = 2 then 1 else 0 : Int32) = _ from (if_neg q7).trans (if_neg q17)]) rfl
    · skip
      refine td_iconst (v := 1) dX5_isLaden_20 (by decide) ?_
      refine td_goto (tgt := 25) dX5_isLaden_21 (by decide) ?_
      exact td_to KJ25 rfl (by rw [show (if (h (k0 + 4) (ix x1)) = 1 then 1 else if (h (k0 + 4) (ix x1)) = 2 then 1 else 0 : Int32) = _ from (if_neg q7).trans (if_pos q17)]) rfl
theorem st3 {k : Nat} (h : k < 6) : (td_st 3).getD k 0 = nI (szk k) := (by decide +kernel : ∀ k, k < 6 → (td_st 3).getD k 0 = nI (szk k)) k h
theorem st4 {k : Nat} (h : k < 6) : (td_st 4).getD k 0 = nI (puk k) := (by decide +kernel : ∀ k, k < 6 → (td_st 4).getD k 0 = nI (puk k)) k h
theorem c_P_sizeOf {G : td_G} {d : Nat} {h : td_H} {k : Nat} (hk : td_kd k = 5) (c : nH) (x : Int32) (hc : dP c k h) (hx : vp_in x 12) (hn : ix x < c 1 0) : td_C G d mX5_sizeOf [.ref k, .int x] h (eR (nI (szk (c 3 (ix x)))) h) := by
  have e := (hc.2.2.2 (ix x) hn).2.2
  have hp := hc.1.p hn
  refine td_entry rfl (Nat.le_of_ble_eq_true rfl) rfl (gX5_sizeOf_0 hk ⟨hx, ?_, ?_, rfl⟩)
  · rw [e]; exact vp_in_nI hp.2.1 (by decide)
  · rw [e, ixn (by omega), st3 hp.2.1]
theorem c_P_pushOf {G : td_G} {d : Nat} {h : td_H} {k : Nat} (hk : td_kd k = 5) (c : nH) (x : Int32) (hc : dP c k h) (hx : vp_in x 12) (hn : ix x < c 1 0) : td_C G d mX5_pushOf [.ref k, .int x] h (eR (nI (puk (c 3 (ix x)))) h) := by
  have e := (hc.2.2.2 (ix x) hn).2.2
  have hp := hc.1.p hn
  refine td_entry rfl (Nat.le_of_ble_eq_true rfl) rfl (gX5_pushOf_0 hk ⟨hx, ?_, ?_, rfl⟩)
  · rw [e]; exact vp_in_nI hp.2.1 (by decide)
  · rw [e, ixn (by omega), st4 hp.2.1]
theorem c_P_isLaden {G : td_G} {d : Nat} {h : td_H} {k : Nat} (hk : td_kd k = 5) (c : nH) (x : Int32) (hc : dP c k h) (hx : vp_in x 12) (hn : ix x < c 1 0) : td_C G d mX5_isLaden [.ref k, .int x] h (eR (b2i (laden (c 3 (ix x)) = true)) h) := by
  have e := (hc.2.2.2 (ix x) hn).2.2
  have hp := hc.1.p hn
  have e2 : (if (h (k + 4) (ix x)) = 1 then 1 else if (h (k + 4) (ix x)) = 2 then 1 else 0 : Int32) = b2i (laden (c 3 (ix x)) = true) := by
    rw [e, ite_c (p := nI (c 3 (ix x)) = 1) (q := c 3 (ix x) = 1) (nI_eq (b := 1) (by omega) (by decide)) _ _, ite_c (p := nI (c 3 (ix x)) = 2) (q := c 3 (ix x) = 2) (nI_eq (b := 2) (by omega) (by decide)) _ _]
    unfold b2i laden
    by_cases q1 : c 3 (ix x) = 1 <;> by_cases q2 : c 3 (ix x) = 2 <;> simp [q1, q2]
  refine td_entry rfl (Nat.le_of_ble_eq_true rfl) rfl (gX5_isLaden_0 hk ⟨hx, ?_⟩)
  rw [e2]
  exact ⟨b2i_01 _, rfl, rfl⟩
set_option maxRecDepth 20000 in
set_option maxHeartbeats 4000000 in
theorem gX1_sectorsInMouth_0 {G : td_G} {d : Nat} {Post : td_P} {x0 x1 x2 x3 : Int32} {h : td_H} (K : td_J G d mX1_sectorsInMouth Post 38 [(0, .int x0), (1, .int x1), (2, .int x2), (3, .int x3), (4, .int (if x0 = 3 then 4 else 3 : Int32)), (5, .int ((x3 + (x1 * (if x0 = 3 then 4 else 3 : Int32))) + (if x2 = 1 then 6 else 0 : Int32))), (6, .int 0), (7, .int 0)] [] h) : td_J G d mX1_sectorsInMouth Post 0 [(0, .int x0), (1, .int x1), (2, .int x2), (3, .int x3)] [] h := by
  refine td_iload_n 0 dX1_sectorsInMouth_0 rfl ?_
  refine td_iconst (v := 3) dX1_sectorsInMouth_1 (by decide) ?_
  have KJ10 : td_J G d mX1_sectorsInMouth Post 10 [(0, .int x0), (1, .int x1), (2, .int x2), (3, .int x3)] [.int (if x0 = 3 then 4 else 3 : Int32)] h := by
    refine td_istore (lv2 := [(0, .int x0), (1, .int x1), (2, .int x2), (3, .int x3), (4, .int (if x0 = 3 then 4 else 3 : Int32))]) dX1_sectorsInMouth_10 (by decide) rfl ?_
    refine td_iload_n 3 dX1_sectorsInMouth_12 rfl ?_
    refine td_iload_n 1 dX1_sectorsInMouth_13 rfl ?_
    refine td_iload 4 dX1_sectorsInMouth_14 rfl ?_
    refine td_imul dX1_sectorsInMouth_16 ?_
    refine td_iadd dX1_sectorsInMouth_17 ?_
    refine td_iload_n 2 dX1_sectorsInMouth_18 rfl ?_
    refine td_iconst (v := 1) dX1_sectorsInMouth_19 (by decide) ?_
    have KJ29 : td_J G d mX1_sectorsInMouth Post 29 [(0, .int x0), (1, .int x1), (2, .int x2), (3, .int x3), (4, .int (if x0 = 3 then 4 else 3 : Int32))] [.int (if x2 = 1 then 6 else 0 : Int32), .int (x3 + (x1 * (if x0 = 3 then 4 else 3 : Int32)))] h := by
      refine td_iadd dX1_sectorsInMouth_29 ?_
      refine td_istore (lv2 := [(0, .int x0), (1, .int x1), (2, .int x2), (3, .int x3), (4, .int (if x0 = 3 then 4 else 3 : Int32)), (5, .int ((x3 + (x1 * (if x0 = 3 then 4 else 3 : Int32))) + (if x2 = 1 then 6 else 0 : Int32)))]) dX1_sectorsInMouth_30 (by decide) rfl ?_
      refine td_iconst (v := 0) dX1_sectorsInMouth_32 (by decide) ?_
      refine td_istore (lv2 := [(0, .int x0), (1, .int x1), (2, .int x2), (3, .int x3), (4, .int (if x0 = 3 then 4 else 3 : Int32)), (5, .int ((x3 + (x1 * (if x0 = 3 then 4 else 3 : Int32))) + (if x2 = 1 then 6 else 0 : Int32))), (6, .int 0)]) dX1_sectorsInMouth_33 (by decide) rfl ?_
      refine td_iconst (v := 0) dX1_sectorsInMouth_35 (by decide) ?_
      refine td_istore (lv2 := [(0, .int x0), (1, .int x1), (2, .int x2), (3, .int x3), (4, .int (if x0 = 3 then 4 else 3 : Int32)), (5, .int ((x3 + (x1 * (if x0 = 3 then 4 else 3 : Int32))) + (if x2 = 1 then 6 else 0 : Int32))), (6, .int 0), (7, .int 0)]) dX1_sectorsInMouth_36 (by decide) rfl ?_
      exact K
    refine td_icmp_ne (tgt := 28) dX1_sectorsInMouth_20 (by decide) (fun q20 => ?_) (fun q20 => ?_)
    · skip
      refine td_iconst (v := 0) dX1_sectorsInMouth_28 (by decide) ?_
      exact td_to KJ29 rfl (by rw [show (if x2 = 1 then 6 else 0 : Int32) = _ from if_neg q20]) rfl
    · skip
      refine td_bipush (v := 6) dX1_sectorsInMouth_23 (by decide) ?_
      refine td_goto (tgt := 29) dX1_sectorsInMouth_25 (by decide) ?_
      exact td_to KJ29 rfl (by rw [show (if x2 = 1 then 6 else 0 : Int32) = _ from if_pos q20]) rfl
  refine td_icmp_ne (tgt := 9) dX1_sectorsInMouth_2 (by decide) (fun q2 => ?_) (fun q2 => ?_)
  · skip
    refine td_iconst (v := 3) dX1_sectorsInMouth_9 (by decide) ?_
    exact td_to KJ10 rfl (by rw [show (if x0 = 3 then 4 else 3 : Int32) = _ from if_neg q2]) rfl
  · skip
    refine td_iconst (v := 4) dX1_sectorsInMouth_5 (by decide) ?_
    refine td_goto (tgt := 10) dX1_sectorsInMouth_6 (by decide) ?_
    exact td_to KJ10 rfl (by rw [show (if x0 = 3 then 4 else 3 : Int32) = _ from if_pos q2]) rfl
set_option maxRecDepth 20000 in
set_option maxHeartbeats 4000000 in
theorem gX1_sectorsInMouth_38 {G : td_G} {d : Nat} {Post : td_P} {x0 x1 x2 x3 x4 x5 x6 x7 : Int32} {h : td_H} (K : (x4 ≤ x7 → (Post (some (.int x6)) h)) ∧ (¬ x4 ≤ x7 → td_J G d mX1_sectorsInMouth Post 38 [(0, .int x0), (1, .int x1), (2, .int x2), (3, .int x3), (4, .int x4), (5, .int x5), (6, .int (if 3 ≤ (jrem (x5 + x7) 12) then x6 else (x6 + 1) : Int32)), (7, .int (x7 + 1))] [] h)) : td_J G d mX1_sectorsInMouth Post 38 [(0, .int x0), (1, .int x1), (2, .int x2), (3, .int x3), (4, .int x4), (5, .int x5), (6, .int x6), (7, .int x7)] [] h := by
  refine td_iload 7 dX1_sectorsInMouth_38 rfl ?_
  refine td_iload 4 dX1_sectorsInMouth_40 rfl ?_
  obtain ⟨Kt, Kf⟩ := K
  refine td_icmp_ge (tgt := 66) dX1_sectorsInMouth_42 (by decide) (fun q42 => ?_) (fun q42 => ?_)
  · have K := Kt q42
    refine td_iload 6 dX1_sectorsInMouth_66 rfl ?_
    exact td_ireturn rfl dX1_sectorsInMouth_68 K
  · have K := Kf q42
    refine td_iload 5 dX1_sectorsInMouth_45 rfl ?_
    refine td_iload 7 dX1_sectorsInMouth_47 rfl ?_
    refine td_iadd dX1_sectorsInMouth_49 ?_
    refine td_bipush (v := 12) dX1_sectorsInMouth_50 (by decide) ?_
    refine td_irem dX1_sectorsInMouth_52 (by decide) ?_
    refine td_iconst (v := 3) dX1_sectorsInMouth_53 (by decide) ?_
    have KJ60 : td_J G d mX1_sectorsInMouth Post 60 [(0, .int x0), (1, .int x1), (2, .int x2), (3, .int x3), (4, .int x4), (5, .int x5), (6, .int (if 3 ≤ (jrem (x5 + x7) 12) then x6 else (x6 + 1) : Int32)), (7, .int x7)] [] h := by
      refine td_iinc 7 (v := x7 + 1) (lv2 := [(0, .int x0), (1, .int x1), (2, .int x2), (3, .int x3), (4, .int x4), (5, .int x5), (6, .int (if 3 ≤ (jrem (x5 + x7) 12) then x6 else (x6 + 1) : Int32)), (7, .int (x7 + 1))]) dX1_sectorsInMouth_60 rfl (congrArg (x7 + ·) (by decide)) (by decide) rfl ?_
      refine td_goto (tgt := 38) dX1_sectorsInMouth_63 (by decide) ?_
      exact K
    refine td_icmp_ge (tgt := 60) dX1_sectorsInMouth_54 (by decide) (fun q54 => ?_) (fun q54 => ?_)
    · skip
      exact td_to KJ60 (by rw [show (if 3 ≤ (jrem (x5 + x7) 12) then x6 else (x6 + 1) : Int32) = _ from if_pos q54]) rfl rfl
    · skip
      refine td_iinc 6 (v := x6 + 1) (lv2 := [(0, .int x0), (1, .int x1), (2, .int x2), (3, .int x3), (4, .int x4), (5, .int x5), (6, .int (x6 + 1)), (7, .int x7)]) dX1_sectorsInMouth_57 rfl (congrArg (x6 + ·) (by decide)) (by decide) rfl ?_
      exact td_to KJ60 (by rw [show (if 3 ≤ (jrem (x5 + x7) 12) then x6 else (x6 + 1) : Int32) = _ from if_neg q54]) rfl rfl
theorem c_sectors {G : td_G} {d : Nat} {h : td_H} (x0 x1 x2 x3 : Int32) (h0 : x0 = 3 ∨ x0 = 4) (h1 : vp_in x1 4) (h2 : vp_in x2 2) (h3 : vp_in x3 12) : td_C G d mX1_sectorsInMouth [.int x0, .int x1, .int x2, .int x3] h (eR (nI (share (ix x0) (ix x1) (ix x2) (ix x3))) h) := by
  obtain ⟨i, hi, rfl⟩ := vp_in_of h1 (by decide)
  obtain ⟨s, hs, rfl⟩ := vp_in_of h2 (by decide)
  obtain ⟨t, ht, rfl⟩ := vp_in_of h3 (by decide)
  obtain ⟨L, hL, rfl⟩ : ∃ L : Nat, (L = 3 ∨ L = 4) ∧ x0 = nI L := by
    rcases h0 with z | z
    · exact ⟨3, Or.inl rfl, z⟩
    · exact ⟨4, Or.inr rfl, z⟩
  rw [ixn (by omega), ixn (by omega), ixn (by omega), ixn (by omega)]
  refine td_entry rfl (Nat.le_of_ble_eq_true rfl) rfl (gX1_sectorsInMouth_0 ?_)
  have ew : (if nI L = 3 then 4 else 3 : Int32) = nI (12 / L) := by
    rcases hL with z | z <;> rw [z] <;> rfl
  have hw : 12 / L ≤ 4 := by rcases hL with z | z <;> rw [z] <;> decide
  have e6 : (if nI s = 1 then 6 else 0 : Int32) = nI (6 * s) := by
    rcases (by omega : s = 0 ∨ s = 1) with z | z <;> rw [z] <;> rfl
  rw [ew, e6]
  generalize hwe : 12 / L = w at hw ⊢
  have hiw : i * w ≤ 12 := Nat.le_trans (Nat.mul_le_mul (by omega : i ≤ 3) hw) (by decide)
  rw [pk_mul, nI_add, nI_add]
  refine td_for w (fun k => [(0, .int (nI L)), (1, .int (nI i)), (2, .int (nI s)), (3, .int (nI t)), (4, .int (nI w)), (5, .int (nI (t + i * w + 6 * s))), (6, .int (nI (fb_ct (shB L i s t) k))), (7, .int (nI k))]) (fun _ => h) rfl rfl (fun k hk ih => ?_) ?_
  · refine gX1_sectorsInMouth_38 ⟨fun q => absurd (le_of q) (by omega), fun _ => ?_⟩
    refine td_to ih ?_ rfl rfl
    have e2 : jrem (nI (t + i * w + 6 * s) + nI k) 12 = nI ((t + i * w + 6 * s + k) % 12) := by
      rw [nI_add]
      exact jrem_n (b := 12) (by omega) (by decide) (by decide)
    rw [e2, ite_c (p := (3 : Int32) ≤ nI ((t + i * w + 6 * s + k) % 12)) (q := 3 ≤ (t + i * w + 6 * s + k) % 12) (nI_leI (a := 3) (by decide) (by omega)) _ _, fb_ct_succ]
    have eX : (if 3 ≤ (t + i * w + 6 * s + k) % 12 then nI (fb_ct (shB L i s t) k) else nI (fb_ct (shB L i s t) k) + 1) = nI (fb_ct (shB L i s t) k + if shB L i s t k = true then 1 else 0) := by
      have z : (3 ≤ (t + i * w + 6 * s + k) % 12) ↔ ¬ shB L i s t k = true := by
        unfold shB
        rw [hwe]
        simp
        omega
      by_cases y : shB L i s t k = true
      · rw [if_neg (fun w => z.mp w y), if_pos y, nI_1]
      · rw [if_pos (z.mpr y), if_neg y, Nat.add_zero]
    rw [eX, nI_1]
  · refine gX1_sectorsInMouth_38 ⟨fun _ => ⟨?_, rfl⟩, fun q => absurd (nle_of q) (by omega)⟩
    unfold share
    rw [hwe]
set_option maxRecDepth 20000 in
set_option maxHeartbeats 4000000 in
theorem gX1_openParts_0 {G : td_G} {d : Nat} {Post : td_P} {x0 x1 x2 x3 : Int32} {h : td_H} (K : td_J G (d + 1) mX1_openParts Post 6 [(0, .int x0), (1, .int x1), (2, .int x2), (3, .int x3), (4, .int 0), (5, .int 0)] [] h) : td_J G (d + 1) mX1_openParts Post 0 [(0, .int x0), (1, .int x1), (2, .int x2), (3, .int x3)] [] h := by
  refine td_iconst (v := 0) dX1_openParts_0 (by decide) ?_
  refine td_istore (lv2 := [(0, .int x0), (1, .int x1), (2, .int x2), (3, .int x3), (4, .int 0)]) dX1_openParts_1 (by decide) rfl ?_
  refine td_iconst (v := 0) dX1_openParts_3 (by decide) ?_
  refine td_istore (lv2 := [(0, .int x0), (1, .int x1), (2, .int x2), (3, .int x3), (4, .int 0), (5, .int 0)]) dX1_openParts_4 (by decide) rfl ?_
  exact K
set_option maxRecDepth 20000 in
set_option maxHeartbeats 4000000 in
theorem gX1_openParts_6 {G : td_G} {d : Nat} {Post : td_P} {x0 x1 x2 x3 x4 x5 : Int32} {h : td_H} (K : (x0 ≤ x5 → (Post (some (.int x4)) h)) ∧ (¬ x0 ≤ x5 → ((x0 = 3 ∨ x0 = 4) ∧ vp_in x5 4 ∧ vp_in x2 2 ∧ vp_in x3 12 ∧ (td_J G (d + 1) mX1_openParts Post 6 [(0, .int x0), (1, .int x1), (2, .int x2), (3, .int x3), (4, .int (if (nI (share (ix x0) (ix x5) (ix x2) (ix x3))) < x1 then x4 else (x4 ||| (jshl 1 x5)) : Int32)), (5, .int (x5 + 1))] [] h)))) : td_J G (d + 1) mX1_openParts Post 6 [(0, .int x0), (1, .int x1), (2, .int x2), (3, .int x3), (4, .int x4), (5, .int x5)] [] h := by
  refine td_iload 5 dX1_openParts_6 rfl ?_
  refine td_iload_n 0 dX1_openParts_8 rfl ?_
  obtain ⟨Kt, Kf⟩ := K
  refine td_icmp_ge (tgt := 39) dX1_openParts_9 (by decide) (fun q9 => ?_) (fun q9 => ?_)
  · have K := Kt q9
    refine td_iload 4 dX1_openParts_39 rfl ?_
    exact td_ireturn rfl dX1_openParts_41 K
  · have K := Kf q9
    refine td_iload_n 0 dX1_openParts_12 rfl ?_
    refine td_iload 5 dX1_openParts_13 rfl ?_
    refine td_iload_n 2 dX1_openParts_15 rfl ?_
    refine td_iload_n 3 dX1_openParts_16 rfl ?_
    obtain ⟨e17_0, K⟩ := K
    obtain ⟨e17_1, K⟩ := K
    obtain ⟨e17_2, K⟩ := K
    obtain ⟨e17_3, K⟩ := K
    refine cl_X1_27 rfl dX1_openParts_17 (Nat.le_of_ble_eq_true rfl) (c_sectors x0 x5 x2 x3 e17_0 e17_1 e17_2 e17_3) (eR_k ?_)
    refine td_eqs (st2 := [.int (nI (share (ix x0) (ix x5) (ix x2) (ix x3)))]) rfl ?_
    refine td_iload_n 1 dX1_openParts_20 rfl ?_
    have KJ33 : td_J G (d + 1) mX1_openParts Post 33 [(0, .int x0), (1, .int x1), (2, .int x2), (3, .int x3), (4, .int (if (nI (share (ix x0) (ix x5) (ix x2) (ix x3))) < x1 then x4 else (x4 ||| (jshl 1 x5)) : Int32)), (5, .int x5)] [] h := by
      refine td_iinc 5 (v := x5 + 1) (lv2 := [(0, .int x0), (1, .int x1), (2, .int x2), (3, .int x3), (4, .int (if (nI (share (ix x0) (ix x5) (ix x2) (ix x3))) < x1 then x4 else (x4 ||| (jshl 1 x5)) : Int32)), (5, .int (x5 + 1))]) dX1_openParts_33 rfl (congrArg (x5 + ·) (by decide)) (by decide) rfl ?_
      refine td_goto (tgt := 6) dX1_openParts_36 (by decide) ?_
      exact K
    refine td_icmp_lt (tgt := 33) dX1_openParts_21 (by decide) (fun q21 => ?_) (fun q21 => ?_)
    · skip
      exact td_to KJ33 (by rw [show (if (nI (share (ix x0) (ix x5) (ix x2) (ix x3))) < x1 then x4 else (x4 ||| (jshl 1 x5)) : Int32) = _ from if_pos q21]) rfl rfl
    · skip
      refine td_iload 4 dX1_openParts_24 rfl ?_
      refine td_iconst (v := 1) dX1_openParts_26 (by decide) ?_
      refine td_iload 5 dX1_openParts_27 rfl ?_
      refine td_ishl dX1_openParts_29 ?_
      refine td_ior dX1_openParts_30 ?_
      refine td_istore (lv2 := [(0, .int x0), (1, .int x1), (2, .int x2), (3, .int x3), (4, .int (x4 ||| (jshl 1 x5))), (5, .int x5)]) dX1_openParts_31 (by decide) rfl ?_
      exact td_to KJ33 (by rw [show (if (nI (share (ix x0) (ix x5) (ix x2) (ix x3))) < x1 then x4 else (x4 ||| (jshl 1 x5)) : Int32) = _ from if_neg q21]) rfl rfl
def opM (L O s t : Nat) (i : Nat) : Bool := decide (i < L) && decide (O ≤ share L i s t)
theorem c_openParts {G : td_G} {d : Nat} {h : td_H} (x0 x1 x2 x3 : Int32) (h0 : x0 = 3 ∨ x0 = 4) (h1 : vp_in x1 4) (h2 : vp_in x2 2) (h3 : vp_in x3 12) : td_C G (d + 1) mX1_openParts [.int x0, .int x1, .int x2, .int x3] h (eR (ms (opM (ix x0) (ix x1) (ix x2) (ix x3))) h) := by
  obtain ⟨o, ho, rfl⟩ := vp_in_of h1 (by decide)
  obtain ⟨s, hs, rfl⟩ := vp_in_of h2 (by decide)
  obtain ⟨t, ht, rfl⟩ := vp_in_of h3 (by decide)
  obtain ⟨L, hL, rfl⟩ : ∃ L : Nat, (L = 3 ∨ L = 4) ∧ x0 = nI L := by
    rcases h0 with z | z
    · exact ⟨3, Or.inl rfl, z⟩
    · exact ⟨4, Or.inr rfl, z⟩
  have e0 : ix (nI L) = L := ixn (by omega)
  have e1 : ix (nI o) = o := ixn (by omega)
  have e2 : ix (nI s) = s := ixn (by omega)
  have e3 : ix (nI t) = t := ixn (by omega)
  rw [e0, e1, e2, e3]
  have hw : 12 / L ≤ 4 := by rcases hL with z | z <;> rw [z] <;> decide
  refine td_entry rfl (Nat.le_of_ble_eq_true rfl) rfl (gX1_openParts_0 ?_)
  refine td_for L (fun k => [(0, .int (nI L)), (1, .int (nI o)), (2, .int (nI s)), (3, .int (nI t)), (4, .int (nI (mk (fun i => decide (o ≤ share L i s t)) k))), (5, .int (nI k))]) (fun _ => h) rfl rfl (fun k hk ih => ?_) ?_
  · refine gX1_openParts_6 ⟨fun q => absurd (le_of q) (by omega), fun _ => ⟨h0, vp_in_nI (by omega) (by decide), h2, h3, ?_⟩⟩
    refine td_to ih ?_ rfl rfl
    have hsh := share_le L k s t
    rw [e0, e2, e3, ixn (by omega), nI_1, ite_c (nI_ltI (by omega) (by omega)) _ _, ← mk_step (p := fun i => decide (o ≤ share L i s t)) (by omega)]
    by_cases y : share L k s t < o
    · rw [if_pos y, if_neg (by simp; omega), show (0 : Int32) = nI 0 from rfl, fa_or, Nat.or_zero]
    · rw [if_neg y, if_pos (by simp; omega)]
  · refine gX1_openParts_6 ⟨fun _ => ⟨?_, rfl⟩, fun q => absurd (nle_of q) (by omega)⟩
    rw [mk_ms (by omega)]
    rfl
set_option maxRecDepth 20000 in
set_option maxHeartbeats 4000000 in
theorem gX1_openSet_0 {G : td_G} {d : Nat} {Post : td_P} {k0 : Nat} {x1 : Int32} {h : td_H} (hk0 : td_kd k0 = 1) (K : vp_in ((x1 * 12) + (h k0 7)) 24 ∧ (Post (some (.int (h (k0 + 2) (ix ((x1 * 12) + (h k0 7)))))) h)) : td_J G d mX1_openSet Post 0 [(0, .ref k0), (1, .int x1)] [] h := by
  refine td_aload_n 0 dX1_openSet_0 rfl ?_
  refine gf_X1_15 rfl hk0 dX1_openSet_1 ?_
  refine td_iload_n 1 dX1_openSet_4 rfl ?_
  refine td_bipush (v := 12) dX1_openSet_5 (by decide) ?_
  refine td_imul dX1_openSet_7 ?_
  refine td_aload_n 0 dX1_openSet_8 rfl ?_
  refine gf_X1_46 rfl hk0 dX1_openSet_9 ?_
  refine td_iadd dX1_openSet_12 ?_
  obtain ⟨e13, K⟩ := K
  refine td_ialdc (j := (ix ((x1 * 12) + (h k0 7)))) (kd_1_1 hk0) (by decide) e13 rfl dX1_openSet_13 ?_
  exact td_ireturn rfl dX1_openSet_14 K
set_option maxRecDepth 20000 in
set_option maxHeartbeats 4000000 in
theorem gX1_shareAt_0 {G : td_G} {d : Nat} {Post : td_P} {k0 : Nat} {x1 x2 : Int32} {h : td_H} (hk0 : td_kd k0 = 1) (K : vp_in ((((x2 * 12) + (h k0 7)) * 4) + x1) 96 ∧ (Post (some (.int (h (k0 + 1) (ix ((((x2 * 12) + (h k0 7)) * 4) + x1))))) h)) : td_J G d mX1_shareAt Post 0 [(0, .ref k0), (1, .int x1), (2, .int x2)] [] h := by
  refine td_aload_n 0 dX1_shareAt_0 rfl ?_
  refine gf_X1_9 rfl hk0 dX1_shareAt_1 ?_
  refine td_iload_n 2 dX1_shareAt_4 rfl ?_
  refine td_bipush (v := 12) dX1_shareAt_5 (by decide) ?_
  refine td_imul dX1_shareAt_7 ?_
  refine td_aload_n 0 dX1_shareAt_8 rfl ?_
  refine gf_X1_46 rfl hk0 dX1_shareAt_9 ?_
  refine td_iadd dX1_shareAt_12 ?_
  refine td_iconst (v := 4) dX1_shareAt_13 (by decide) ?_
  refine td_imul dX1_shareAt_14 ?_
  refine td_iload_n 1 dX1_shareAt_15 rfl ?_
  refine td_iadd dX1_shareAt_16 ?_
  obtain ⟨e17, K⟩ := K
  refine td_ialdc (j := (ix ((((x2 * 12) + (h k0 7)) * 4) + x1))) (kd_1_0 hk0) (by decide) e17 rfl dX1_shareAt_17 ?_
  exact td_ireturn rfl dX1_shareAt_18 K
set_option maxRecDepth 20000 in
set_option maxHeartbeats 4000000 in
theorem gX1_stepOn_0 {G : td_G} {d : Nat} {Post : td_P} {k0 : Nat} {h : td_H} (hk0 : td_kd k0 = 1) (K : Post none (hu (hu h k0 7 (if (h k0 7) = 11 then 0 else ((h k0 7) + 1) : Int32)) k0 9 (((hu h k0 7 (if (h k0 7) = 11 then 0 else ((h k0 7) + 1) : Int32)) k0 9) + 1))) : td_J G d mX1_stepOn Post 0 [(0, .ref k0)] [] h := by
  refine td_aload_n 0 dX1_stepOn_0 rfl ?_
  refine td_aload_n 0 dX1_stepOn_1 rfl ?_
  refine gf_X1_46 rfl hk0 dX1_stepOn_2 ?_
  refine td_bipush (v := 11) dX1_stepOn_5 (by decide) ?_
  have KJ20 : td_J G d mX1_stepOn Post 20 [(0, .ref k0)] [.int (if (h k0 7) = 11 then 0 else ((h k0 7) + 1) : Int32), .ref k0] h := by
    refine pf_X1_46 rfl hk0 dX1_stepOn_20 ?_
    refine td_aload_n 0 dX1_stepOn_23 rfl ?_
    refine td_dup dX1_stepOn_24 rfl ?_
    refine gf_X1_52 rfl hk0 dX1_stepOn_25 ?_
    refine td_iconst (v := 1) dX1_stepOn_28 (by decide) ?_
    refine td_iadd dX1_stepOn_29 ?_
    refine pf_X1_52 rfl hk0 dX1_stepOn_30 ?_
    exact td_return rfl dX1_stepOn_33 K
  refine td_icmp_ne (tgt := 14) dX1_stepOn_7 (by decide) (fun q7 => ?_) (fun q7 => ?_)
  · skip
    refine td_aload_n 0 dX1_stepOn_14 rfl ?_
    refine gf_X1_46 rfl hk0 dX1_stepOn_15 ?_
    refine td_iconst (v := 1) dX1_stepOn_18 (by decide) ?_
    refine td_iadd dX1_stepOn_19 ?_
    exact td_to KJ20 rfl (by rw [show (if (h k0 7) = 11 then 0 else ((h k0 7) + 1) : Int32) = _ from if_neg q7]) rfl
  · skip
    refine td_iconst (v := 0) dX1_stepOn_10 (by decide) ?_
    refine td_goto (tgt := 20) dX1_stepOn_11 (by decide) ?_
    exact td_to KJ20 rfl (by rw [show (if (h k0 7) = 11 then 0 else ((h k0 7) + 1) : Int32) = _ from if_pos q7]) rfl
set_option maxRecDepth 20000 in
set_option maxHeartbeats 4000000 in
theorem gX1_holdersOf_0 {G : td_G} {d : Nat} {Post : td_P} {k0 : Nat} {x1 : Int32} {h : td_H} (hk0 : td_kd k0 = 1) (K : td_J G d mX1_holdersOf Post 4 [(0, .ref k0), (1, .int x1), (2, .int 0), (3, .int 0)] [] h) : td_J G d mX1_holdersOf Post 0 [(0, .ref k0), (1, .int x1)] [] h := by
  refine td_iconst (v := 0) dX1_holdersOf_0 (by decide) ?_
  refine td_istore_n (lv2 := [(0, .ref k0), (1, .int x1), (2, .int 0)]) dX1_holdersOf_1 (by decide) rfl ?_
  refine td_iconst (v := 0) dX1_holdersOf_2 (by decide) ?_
  refine td_istore_n (lv2 := [(0, .ref k0), (1, .int x1), (2, .int 0), (3, .int 0)]) dX1_holdersOf_3 (by decide) rfl ?_
  exact K
set_option maxRecDepth 20000 in
set_option maxHeartbeats 4000000 in
theorem gX1_holdersOf_4 {G : td_G} {d : Nat} {Post : td_P} {k0 : Nat} {x1 x2 x3 : Int32} {h : td_H} (hk0 : td_kd k0 = 1) (K : (4 ≤ x3 → (Post (some (.int x2)) h)) ∧ (¬ 4 ≤ x3 → (((jshr x1 x3) = 0 → (Post (some (.int x2)) h)) ∧ (¬ (jshr x1 x3) = 0 → ((¬ ((jshr x1 x3) &&& 1) = 0 → (vp_in x3 4 ∧ True)) ∧ (td_J G d mX1_holdersOf Post 4 [(0, .ref k0), (1, .int x1), (2, .int (if ((jshr x1 x3) &&& 1) = 0 then x2 else (x2 ||| (h (k0 + 3) (ix x3))) : Int32)), (3, .int (x3 + 1))] [] h)))))) : td_J G d mX1_holdersOf Post 4 [(0, .ref k0), (1, .int x1), (2, .int x2), (3, .int x3)] [] h := by
  refine td_iload_n 3 dX1_holdersOf_4 rfl ?_
  refine td_iconst (v := 4) dX1_holdersOf_5 (by decide) ?_
  obtain ⟨Kt, Kf⟩ := K
  refine td_icmp_ge (tgt := 38) dX1_holdersOf_6 (by decide) (fun q6 => ?_) (fun q6 => ?_)
  · have K := Kt q6
    refine td_iload_n 2 dX1_holdersOf_38 rfl ?_
    exact td_ireturn rfl dX1_holdersOf_39 K
  · have K := Kf q6
    refine td_iload_n 1 dX1_holdersOf_9 rfl ?_
    refine td_iload_n 3 dX1_holdersOf_10 rfl ?_
    refine td_ishr dX1_holdersOf_11 ?_
    obtain ⟨Kt, Kf⟩ := K
    refine td_if_eq (tgt := 38) dX1_holdersOf_12 (by decide) (fun q12 => ?_) (fun q12 => ?_)
    · have K := Kt q12
      refine td_iload_n 2 dX1_holdersOf_38 rfl ?_
      exact td_ireturn rfl dX1_holdersOf_39 K
    · have K := Kf q12
      refine td_iload_n 1 dX1_holdersOf_15 rfl ?_
      refine td_iload_n 3 dX1_holdersOf_16 rfl ?_
      refine td_ishr dX1_holdersOf_17 ?_
      refine td_iconst (v := 1) dX1_holdersOf_18 (by decide) ?_
      refine td_iand dX1_holdersOf_19 ?_
      obtain ⟨Ks20, K⟩ := K
      have KJ32 : td_J G d mX1_holdersOf Post 32 [(0, .ref k0), (1, .int x1), (2, .int (if ((jshr x1 x3) &&& 1) = 0 then x2 else (x2 ||| (h (k0 + 3) (ix x3))) : Int32)), (3, .int x3)] [] h := by
        refine td_iinc 3 (v := x3 + 1) (lv2 := [(0, .ref k0), (1, .int x1), (2, .int (if ((jshr x1 x3) &&& 1) = 0 then x2 else (x2 ||| (h (k0 + 3) (ix x3))) : Int32)), (3, .int (x3 + 1))]) dX1_holdersOf_32 rfl (congrArg (x3 + ·) (by decide)) (by decide) rfl ?_
        refine td_goto (tgt := 4) dX1_holdersOf_35 (by decide) ?_
        exact K
      refine td_if_eq (tgt := 32) dX1_holdersOf_20 (by decide) (fun q20 => ?_) (fun q20 => ?_)
      · skip
        exact td_to KJ32 (by rw [show (if ((jshr x1 x3) &&& 1) = 0 then x2 else (x2 ||| (h (k0 + 3) (ix x3))) : Int32) = _ from if_pos q20]) rfl rfl
      · have K := Ks20 q20
        refine td_iload_n 2 dX1_holdersOf_23 rfl ?_
        refine td_aload_n 0 dX1_holdersOf_24 rfl ?_
        refine gf_X1_18 rfl hk0 dX1_holdersOf_25 ?_
        refine td_iload_n 3 dX1_holdersOf_28 rfl ?_
        obtain ⟨e29, K⟩ := K
        refine td_ialdc (j := (ix x3)) (kd_1_2 hk0) (by decide) e29 rfl dX1_holdersOf_29 ?_
        refine td_ior dX1_holdersOf_30 ?_
        refine td_istore_n (lv2 := [(0, .ref k0), (1, .int x1), (2, .int (x2 ||| (h (k0 + 3) (ix x3)))), (3, .int x3)]) dX1_holdersOf_31 (by decide) rfl ?_
        exact td_to KJ32 (by rw [show (if ((jshr x1 x3) &&& 1) = 0 then x2 else (x2 ||| (h (k0 + 3) (ix x3))) : Int32) = _ from if_neg q20]) rfl rfl
set_option maxRecDepth 20000 in
set_option maxHeartbeats 4000000 in
theorem gX1_lose_0 {G : td_G} {d : Nat} {Post : td_P} {k0 : Nat} {x1 : Int32} {h : td_H} (hk0 : td_kd k0 = 1) (K : td_J G d mX1_lose Post 2 [(0, .ref k0), (1, .int x1), (2, .int 0)] [] h) : td_J G d mX1_lose Post 0 [(0, .ref k0), (1, .int x1)] [] h := by
  refine td_iconst (v := 0) dX1_lose_0 (by decide) ?_
  refine td_istore_n (lv2 := [(0, .ref k0), (1, .int x1), (2, .int 0)]) dX1_lose_1 (by decide) rfl ?_
  exact K
set_option maxRecDepth 20000 in
set_option maxHeartbeats 4000000 in
theorem gX1_lose_2 {G : td_G} {d : Nat} {Post : td_P} {k0 : Nat} {x1 x2 : Int32} {h : td_H} (hk0 : td_kd k0 = 1) (K : (4 ≤ x2 → (Post none h)) ∧ (¬ 4 ≤ x2 → (((jshr x1 x2) = 0 → (Post none h)) ∧ (¬ (jshr x1 x2) = 0 → ((¬ ((jshr x1 x2) &&& 1) = 0 → (vp_in x2 4 ∧ True)) ∧ (td_J G d mX1_lose Post 2 [(0, .ref k0), (1, .int x1), (2, .int (x2 + 1))] [] (if ((jshr x1 x2) &&& 1) = 0 then h else if (h (k0 + 4) (ix x2)) ≤ 0 then h else (hu h k0 11 ((h k0 11) + ((h k0 10) * (h (k0 + 4) (ix x2))))) : td_H))))))) : td_J G d mX1_lose Post 2 [(0, .ref k0), (1, .int x1), (2, .int x2)] [] h := by
  refine td_iload_n 2 dX1_lose_2 rfl ?_
  refine td_iconst (v := 4) dX1_lose_3 (by decide) ?_
  obtain ⟨Kt, Kf⟩ := K
  refine td_icmp_ge (tgt := 56) dX1_lose_4 (by decide) (fun q4 => ?_) (fun q4 => ?_)
  · have K := Kt q4
    exact td_return rfl dX1_lose_56 K
  · have K := Kf q4
    refine td_iload_n 1 dX1_lose_7 rfl ?_
    refine td_iload_n 2 dX1_lose_8 rfl ?_
    refine td_ishr dX1_lose_9 ?_
    obtain ⟨Kt, Kf⟩ := K
    refine td_if_eq (tgt := 56) dX1_lose_10 (by decide) (fun q10 => ?_) (fun q10 => ?_)
    · have K := Kt q10
      exact td_return rfl dX1_lose_56 K
    · have K := Kf q10
      refine td_iload_n 1 dX1_lose_13 rfl ?_
      refine td_iload_n 2 dX1_lose_14 rfl ?_
      refine td_ishr dX1_lose_15 ?_
      refine td_iconst (v := 1) dX1_lose_16 (by decide) ?_
      refine td_iand dX1_lose_17 ?_
      obtain ⟨Ks18, K⟩ := K
      have KJ50 : td_J G d mX1_lose Post 50 [(0, .ref k0), (1, .int x1), (2, .int x2)] [] (if ((jshr x1 x2) &&& 1) = 0 then h else if (h (k0 + 4) (ix x2)) ≤ 0 then h else (hu h k0 11 ((h k0 11) + ((h k0 10) * (h (k0 + 4) (ix x2))))) : td_H) := by
        refine td_iinc 2 (v := x2 + 1) (lv2 := [(0, .ref k0), (1, .int x1), (2, .int (x2 + 1))]) dX1_lose_50 rfl (congrArg (x2 + ·) (by decide)) (by decide) rfl ?_
        refine td_goto (tgt := 2) dX1_lose_53 (by decide) ?_
        exact K
      refine td_if_eq (tgt := 50) dX1_lose_18 (by decide) (fun q18 => ?_) (fun q18 => ?_)
      · skip
        exact td_to KJ50 rfl rfl (by rw [show (if ((jshr x1 x2) &&& 1) = 0 then h else if (h (k0 + 4) (ix x2)) ≤ 0 then h else (hu h k0 11 ((h k0 11) + ((h k0 10) * (h (k0 + 4) (ix x2))))) : td_H) = _ from if_pos q18])
      · have K := Ks18 q18
        refine td_aload_n 0 dX1_lose_21 rfl ?_
        refine gf_X1_21 rfl hk0 dX1_lose_22 ?_
        refine td_iload_n 2 dX1_lose_25 rfl ?_
        obtain ⟨e26, K⟩ := K
        refine td_ialdc (j := (ix x2)) (kd_1_3 hk0) (by decide) e26 rfl dX1_lose_26 ?_
        refine td_if_le (tgt := 50) dX1_lose_27 (by decide) (fun q27 => ?_) (fun q27 => ?_)
        · skip
          exact td_to KJ50 rfl rfl (by rw [show (if ((jshr x1 x2) &&& 1) = 0 then h else if (h (k0 + 4) (ix x2)) ≤ 0 then h else (hu h k0 11 ((h k0 11) + ((h k0 10) * (h (k0 + 4) (ix x2))))) : td_H) = _ from (if_neg q18).trans (if_pos q27)])
        · skip
          refine td_aload_n 0 dX1_lose_30 rfl ?_
          refine td_dup dX1_lose_31 rfl ?_
          refine gf_X1_58 rfl hk0 dX1_lose_32 ?_
          refine td_aload_n 0 dX1_lose_35 rfl ?_
          refine gf_X1_55 rfl hk0 dX1_lose_36 ?_
          refine td_aload_n 0 dX1_lose_39 rfl ?_
          refine gf_X1_21 rfl hk0 dX1_lose_40 ?_
          refine td_iload_n 2 dX1_lose_43 rfl ?_
          refine td_ialdc (j := (ix x2)) (kd_1_3 hk0) (by decide) e26 rfl dX1_lose_44 ?_
          refine td_imul dX1_lose_45 ?_
          refine td_iadd dX1_lose_46 ?_
          refine pf_X1_58 rfl hk0 dX1_lose_47 ?_
          exact td_to KJ50 rfl rfl (by rw [show (if ((jshr x1 x2) &&& 1) = 0 then h else if (h (k0 + 4) (ix x2)) ≤ 0 then h else (hu h k0 11 ((h k0 11) + ((h k0 10) * (h (k0 + 4) (ix x2))))) : td_H) = _ from (if_neg q18).trans (if_neg q27)])
set_option maxRecDepth 20000 in
set_option maxHeartbeats 4000000 in
theorem gX1_take_0 {G : td_G} {d : Nat} {Post : td_P} {k0 : Nat} {x1 x2 x3 : Int32} {h : td_H} (hk0 : td_kd k0 = 1) (K : vp_in x2 4 ∧ (vp_in x1 12 ∧ (Post none (hu (hu (hu (hu h (k0 + 3) (ix x2) ((h (k0 + 3) (ix x2)) ||| (jshl 1 x1))) (k0 + 4) (ix x2) (((hu h (k0 + 3) (ix x2) ((h (k0 + 3) (ix x2)) ||| (jshl 1 x1))) (k0 + 4) (ix x2)) - x3)) (k0 + 5) (ix x1) x2) k0 8 (((hu (hu (hu h (k0 + 3) (ix x2) ((h (k0 + 3) (ix x2)) ||| (jshl 1 x1))) (k0 + 4) (ix x2) (((hu h (k0 + 3) (ix x2) ((h (k0 + 3) (ix x2)) ||| (jshl 1 x1))) (k0 + 4) (ix x2)) - x3)) (k0 + 5) (ix x1) x2) k0 8) ||| (jshl 1 x1)))))) : td_J G d mX1_take Post 0 [(0, .ref k0), (1, .int x1), (2, .int x2), (3, .int x3)] [] h := by
  refine td_aload_n 0 dX1_take_0 rfl ?_
  refine gf_X1_18 rfl hk0 dX1_take_1 ?_
  refine td_iload_n 2 dX1_take_4 rfl ?_
  refine td_dup2 dX1_take_5 rfl rfl ?_
  obtain ⟨e6, K⟩ := K
  refine td_ialdc (j := (ix x2)) (kd_1_2 hk0) (by decide) e6 rfl dX1_take_6 ?_
  refine td_iconst (v := 1) dX1_take_7 (by decide) ?_
  refine td_iload_n 1 dX1_take_8 rfl ?_
  refine td_ishl dX1_take_9 ?_
  refine td_ior dX1_take_10 ?_
  refine td_iastc (j := (ix x2)) (kd_1_2 hk0) (by decide) e6 rfl dX1_take_11 ?_
  refine td_aload_n 0 dX1_take_12 rfl ?_
  refine gf_X1_21 rfl hk0 dX1_take_13 ?_
  refine td_iload_n 2 dX1_take_16 rfl ?_
  refine td_dup2 dX1_take_17 rfl rfl ?_
  refine td_ialdc (j := (ix x2)) (kd_1_3 hk0) (by decide) e6 rfl dX1_take_18 ?_
  refine td_iload_n 3 dX1_take_19 rfl ?_
  refine td_isub dX1_take_20 ?_
  refine td_iastc (j := (ix x2)) (kd_1_3 hk0) (by decide) e6 rfl dX1_take_21 ?_
  refine td_aload_n 0 dX1_take_22 rfl ?_
  refine gf_X1_24 rfl hk0 dX1_take_23 ?_
  refine td_iload_n 1 dX1_take_26 rfl ?_
  refine td_iload_n 2 dX1_take_27 rfl ?_
  obtain ⟨e28, K⟩ := K
  refine td_iastc (j := (ix x1)) (kd_1_4 hk0) (by decide) e28 rfl dX1_take_28 ?_
  refine td_aload_n 0 dX1_take_29 rfl ?_
  refine td_dup dX1_take_30 rfl ?_
  refine gf_X1_49 rfl hk0 dX1_take_31 ?_
  refine td_iconst (v := 1) dX1_take_34 (by decide) ?_
  refine td_iload_n 1 dX1_take_35 rfl ?_
  refine td_ishl dX1_take_36 ?_
  refine td_ior dX1_take_37 ?_
  refine pf_X1_49 rfl hk0 dX1_take_38 ?_
  exact td_return rfl dX1_take_41 K
set_option maxRecDepth 20000 in
set_option maxHeartbeats 4000000 in
theorem gX1_release_0 {G : td_G} {d : Nat} {Post : td_P} {k0 : Nat} {x1 x2 : Int32} {h : td_H} (hk0 : td_kd k0 = 1) (K : vp_in x1 12 ∧ (vp_in (h (k0 + 5) (ix x1)) 4 ∧ (Post none (hu (hu (hu h (k0 + 3) (ix (h (k0 + 5) (ix x1))) ((h (k0 + 3) (ix (h (k0 + 5) (ix x1)))) &&& ((jshl 1 x1) ^^^ (-1)))) (k0 + 4) (ix (h (k0 + 5) (ix x1))) (((hu h (k0 + 3) (ix (h (k0 + 5) (ix x1))) ((h (k0 + 3) (ix (h (k0 + 5) (ix x1)))) &&& ((jshl 1 x1) ^^^ (-1)))) (k0 + 4) (ix (h (k0 + 5) (ix x1)))) + x2)) k0 8 (((hu (hu h (k0 + 3) (ix (h (k0 + 5) (ix x1))) ((h (k0 + 3) (ix (h (k0 + 5) (ix x1)))) &&& ((jshl 1 x1) ^^^ (-1)))) (k0 + 4) (ix (h (k0 + 5) (ix x1))) (((hu h (k0 + 3) (ix (h (k0 + 5) (ix x1))) ((h (k0 + 3) (ix (h (k0 + 5) (ix x1)))) &&& ((jshl 1 x1) ^^^ (-1)))) (k0 + 4) (ix (h (k0 + 5) (ix x1)))) + x2)) k0 8) &&& ((jshl 1 x1) ^^^ (-1))))))) : td_J G d mX1_release Post 0 [(0, .ref k0), (1, .int x1), (2, .int x2)] [] h := by
  refine td_aload_n 0 dX1_release_0 rfl ?_
  refine gf_X1_24 rfl hk0 dX1_release_1 ?_
  refine td_iload_n 1 dX1_release_4 rfl ?_
  obtain ⟨e5, K⟩ := K
  refine td_ialdc (j := (ix x1)) (kd_1_4 hk0) (by decide) e5 rfl dX1_release_5 ?_
  refine td_istore_n (lv2 := [(0, .ref k0), (1, .int x1), (2, .int x2), (3, .int (h (k0 + 5) (ix x1)))]) dX1_release_6 (by decide) rfl ?_
  refine td_aload_n 0 dX1_release_7 rfl ?_
  refine gf_X1_18 rfl hk0 dX1_release_8 ?_
  refine td_iload_n 3 dX1_release_11 rfl ?_
  refine td_dup2 dX1_release_12 rfl rfl ?_
  obtain ⟨e13, K⟩ := K
  refine td_ialdc (j := (ix (h (k0 + 5) (ix x1)))) (kd_1_2 hk0) (by decide) e13 rfl dX1_release_13 ?_
  refine td_iconst (v := 1) dX1_release_14 (by decide) ?_
  refine td_iload_n 1 dX1_release_15 rfl ?_
  refine td_ishl dX1_release_16 ?_
  refine td_iconst (v := (-1)) dX1_release_17 (by decide) ?_
  refine td_ixor dX1_release_18 ?_
  refine td_iand dX1_release_19 ?_
  refine td_iastc (j := (ix (h (k0 + 5) (ix x1)))) (kd_1_2 hk0) (by decide) e13 rfl dX1_release_20 ?_
  refine td_aload_n 0 dX1_release_21 rfl ?_
  refine gf_X1_21 rfl hk0 dX1_release_22 ?_
  refine td_iload_n 3 dX1_release_25 rfl ?_
  refine td_dup2 dX1_release_26 rfl rfl ?_
  refine td_ialdc (j := (ix (h (k0 + 5) (ix x1)))) (kd_1_3 hk0) (by decide) e13 rfl dX1_release_27 ?_
  refine td_iload_n 2 dX1_release_28 rfl ?_
  refine td_iadd dX1_release_29 ?_
  refine td_iastc (j := (ix (h (k0 + 5) (ix x1)))) (kd_1_3 hk0) (by decide) e13 rfl dX1_release_30 ?_
  refine td_aload_n 0 dX1_release_31 rfl ?_
  refine td_dup dX1_release_32 rfl ?_
  refine gf_X1_49 rfl hk0 dX1_release_33 ?_
  refine td_iconst (v := 1) dX1_release_36 (by decide) ?_
  refine td_iload_n 1 dX1_release_37 rfl ?_
  refine td_ishl dX1_release_38 ?_
  refine td_iconst (v := (-1)) dX1_release_39 (by decide) ?_
  refine td_ixor dX1_release_40 ?_
  refine td_iand dX1_release_41 ?_
  refine pf_X1_49 rfl hk0 dX1_release_42 ?_
  exact td_return rfl dX1_release_45 K
/-- the drum at D knows where leaves L, opening O are open -/
def dLay (L O D : Nat) (h : td_H) : Prop := (L = 3 ∨ L = 4) ∧ O < 4 ∧ h D 5 = nI L ∧ h D 6 = nI O ∧ ∀ s, s < 2 → ∀ t, t < 12 → h (D + 2) (s * 12 + t) = ms (opM L O s t) ∧ ∀ i, i < 4 → h (D + 1) ((s * 12 + t) * 4 + i) = nI (share L i s t)
theorem c_openSet {G : td_G} {d : Nat} {h : td_H} {D : Nat} (hD : td_kd D = 1) (L O t : Nat) (x : Int32) (hl : dLay L O D h) (hx : vp_in x 2) (ht : h D 7 = nI t ∧ t < 12) : td_C G d mX1_openSet [.ref D, .int x] h (eR (ms (opM L O (ix x) t)) h) := by
  obtain ⟨s, hs, rfl⟩ := vp_in_of hx (by decide)
  have e : nI s * 12 + h D 7 = nI (s * 12 + t) := by
    rw [ht.1, show (12 : Int32) = nI 12 from rfl, pk_mul, nI_add]
  refine td_entry rfl (Nat.le_of_ble_eq_true rfl) rfl (gX1_openSet_0 hD ?_)
  rw [e]
  refine ⟨vp_in_nI (by have := ht.2; omega) (by decide), ?_, rfl⟩
  have := ht.2
  rw [ixn (by omega), ixn (by omega), (hl.2.2.2.2 s hs t ht.2).1]
theorem c_shareAt {G : td_G} {d : Nat} {h : td_H} {D : Nat} (hD : td_kd D = 1) (L O t : Nat) (x y : Int32) (hl : dLay L O D h) (hx : vp_in x 4) (hy : vp_in y 2) (ht : h D 7 = nI t ∧ t < 12) : td_C G d mX1_shareAt [.ref D, .int x, .int y] h (eR (nI (share L (ix x) (ix y) t)) h) := by
  obtain ⟨i, hi, rfl⟩ := vp_in_of hx (by decide)
  obtain ⟨s, hs, rfl⟩ := vp_in_of hy (by decide)
  have e : (nI s * 12 + h D 7) * 4 + nI i = nI ((s * 12 + t) * 4 + i) := by
    rw [ht.1, show (12 : Int32) = nI 12 from rfl, show (4 : Int32) = nI 4 from rfl, pk_mul, nI_add, pk_mul, nI_add]
  refine td_entry rfl (Nat.le_of_ble_eq_true rfl) rfl (gX1_shareAt_0 hD ?_)
  have := ht.2
  rw [e]
  refine ⟨vp_in_nI (by omega) (by decide), ?_, rfl⟩
  rw [ixn (by omega), ixn (by omega), ixn (by omega), (hl.2.2.2.2 s hs t ht.2).2 i hi]
theorem c_stepOn {G : td_G} {d : Nat} {h : td_H} {D : Nat} (hD : td_kd D = 1) (t n : Nat) (ht : h D 7 = nI t ∧ t < 12) (hn : h D 9 = nI n) : td_C G d mX1_stepOn [.ref D] h (eV (hu (hu h D 7 (nI ((t + 1) % 12))) D 9 (nI (n + 1)))) := by
  refine td_entry rfl (Nat.le_of_ble_eq_true rfl) rfl (gX1_stepOn_0 hD ⟨rfl, ?_⟩)
  have e : (if h D 7 = 11 then 0 else h D 7 + 1 : Int32) = nI ((t + 1) % 12) := by
    rw [ht.1, ite_c (p := nI t = 11) (q := t = 11) (nI_eq (b := 11) (by omega) (by decide)) _ _]
    by_cases q : t = 11
    · rw [if_pos q, q]; rfl
    · rw [if_neg q, nI_1, Nat.mod_eq_of_lt (by omega)]
  rw [e, hu_app, if_neg (by omega), hn, nI_1]
/-- who is in one of these parts -/
def inM (c σ : nH) (m : Nat → Bool) (p : Nat) : Bool := exB (fun i => m i && inP c σ i p) 4
theorem c_holdersOf {G : td_G} {d : Nat} {h : td_H} {D : Nat} (hD : td_kd D = 1) (c σ : nH) (m : Nat → Bool) (x : Int32) (hx : x = ms m) (hm : ∀ i, m i = true → i < 4) (hh : ∀ i, i < 4 → h (D + 3) i = ms (inP c σ i)) : td_C G d mX1_holdersOf [.ref D, .int x] h (eR (ms (inM c σ m)) h) := by
  subst hx
  refine td_entry rfl (Nat.le_of_ble_eq_true rfl) rfl (gX1_holdersOf_0 hD ?_)
  have fin : ∀ k, k ≤ 4 → (∀ j, k ≤ j → j < 12 → m j = false) → ms (fun p => exB (fun i => m i && inP c σ i p) k) = ms (inM c σ m) := by
    intro k hk hz
    refine ms_ext (fun p _ => ?_)
    unfold inM
    have : ∀ n, k + n ≤ 12 → exB (fun i => m i && inP c σ i p) (k + n) = exB (fun i => m i && inP c σ i p) k := by
      intro n
      induction n with
      | zero => intro _; rfl
      | succ n ih =>
        intro hn
        rw [← Nat.add_assoc, exB_succ, ih (by omega), hz (k + n) (by omega) (by omega)]
        simp
    have z := this (4 - k) (by omega)
    rw [show k + (4 - k) = 4 by omega] at z
    exact z.symm
  refine td_for 4 (fun k => [(0, .ref D), (1, .int (ms m)), (2, .int (ms (fun p => exB (fun i => m i && inP c σ i p) k))), (3, .int (nI k))]) (fun _ => h) (by rw [show ms (fun p => exB (fun i => m i && inP c σ i p) 0) = 0 from ms_none]; rfl) rfl (fun k hk ih => ?_) ?_
  · refine gX1_holdersOf_4 hD ⟨fun q => absurd (le_of (a := 4) q) (by omega), fun _ => ⟨fun q => ⟨?_, rfl⟩, fun _ => ⟨fun _ => ⟨vp_in_nI hk (by decide), trivial⟩, ?_⟩⟩⟩
    · rw [fin k (by omega) ((ms_shr m (by omega)).mp q)]
    · refine td_to ih ?_ rfl rfl
      rw [ms_bit m (by omega), ixn (by omega), nI_1, hh k hk]
      by_cases y : m k = true
      · rw [if_pos y, if_neg (by decide), ms_or]
        refine congrArg (fun z => [(0, Value.ref D), (1, Value.int (ms m)), (2, Value.int z), (3, Value.int (nI (k + 1)))]) (ms_ext (fun p _ => ?_))
        rw [exB_succ, y]
        simp
      · rw [if_neg y, if_pos rfl]
        refine congrArg (fun z => [(0, Value.ref D), (1, Value.int (ms m)), (2, Value.int z), (3, Value.int (nI (k + 1)))]) (ms_ext (fun p _ => ?_))
        rw [exB_succ]
        simp [y]
  · exact gX1_holdersOf_4 hD ⟨fun _ => ⟨rfl, rfl⟩, fun q => absurd (by decide) q⟩
theorem c_lose {G : td_G} {d : Nat} {h : td_H} {D : Nat} (hD : td_kd D = 1) (m : Nat → Bool) (x : Int32) (f : Nat → Nat) (cold lost : Nat) (hx : x = ms m) (hm : ∀ i, m i = true → i < 4) (hf : ∀ i, i < 4 → h (D + 4) i = nI (f i) ∧ f i < 2 ^ 20) (h10 : h D 10 = nI cold) (h11 : h D 11 = nI lost) : td_C G d mX1_lose [.ref D, .int x] h (eV (hu h D 11 (nI (lost + fb_sm (fun i => if m i then cold * f i else 0) 4)))) := by
  subst hx
  refine td_entry rfl (Nat.le_of_ble_eq_true rfl) rfl (gX1_lose_0 hD ?_)
  have fin : ∀ k, k ≤ 4 → (∀ j, k ≤ j → j < 12 → m j = false) → fb_sm (fun i => if m i then cold * f i else 0) k = fb_sm (fun i => if m i then cold * f i else 0) 4 := by
    intro k hk hz
    have : ∀ n, k + n ≤ 12 → fb_sm (fun i => if m i then cold * f i else 0) (k + n) = fb_sm (fun i => if m i then cold * f i else 0) k := by
      intro n
      induction n with
      | zero => intro _; rfl
      | succ n ih =>
        intro hn
        rw [← Nat.add_assoc, fb_sm_succ, ih (by omega), hz (k + n) (by omega) (by omega)]
        simp
    have z := this (4 - k) (by omega)
    rw [show k + (4 - k) = 4 by omega] at z
    exact z.symm
  refine td_for 4 (fun k => [(0, .ref D), (1, .int (ms m)), (2, .int (nI k))]) (fun k => hu h D 11 (nI (lost + fb_sm (fun i => if m i then cold * f i else 0) k))) rfl (by show h = hu h D 11 (nI lost); rw [← h11, hu_id]) (fun k hk ih => ?_) ?_
  · refine gX1_lose_2 hD ⟨fun q => absurd (le_of (a := 4) q) (by omega), fun _ => ⟨fun q => ⟨rfl, ?_⟩, fun _ => ⟨fun _ => ⟨vp_in_nI hk (by decide), trivial⟩, ?_⟩⟩⟩
    · rw [fin k (by omega) ((ms_shr m (by omega)).mp q)]
    · refine td_to ih (by rw [nI_1]) rfl ?_
      have e4 : ∀ v, hu h D 11 v (D + 4) k = nI (f k) := fun v => by rw [hu_app, if_neg (by omega)]; exact (hf k hk).1
      have e10 : ∀ v, hu h D 11 v D 10 = nI cold := fun v => by rw [hu_app, if_neg (by omega)]; exact h10
      have e11 : ∀ v, hu h D 11 v D 11 = v := fun v => by rw [hu_app, if_pos ⟨rfl, rfl⟩]
      have hh : ∀ v w, hu (hu h D 11 v) D 11 w = hu h D 11 w := fun v w => by
        funext a b
        simp only [hu_app]
        split <;> rfl
      rw [ms_bit m (by omega), ixn (by omega), e4, e10, e11, hh, fb_sm_succ]
      by_cases y : m k = true
      · rw [if_pos y, if_neg (by decide), if_pos y]
        by_cases y2 : f k = 0
        · rw [if_pos (by rw [y2]; decide), y2, Nat.mul_zero, Nat.add_zero]
        · have z := (hf k hk).2
          rw [if_neg (fun w => y2 (by have := le_of (b := 0) w; omega)), pk_mul, nI_add, Nat.add_assoc]
      · rw [if_neg y, if_pos rfl, if_neg y, Nat.add_zero]
  · exact gX1_lose_2 hD ⟨fun _ => ⟨rfl, rfl⟩, fun q => absurd (by decide) q⟩
