/-! Model: shares, masks, room -/
set_option maxRecDepth 20000 in
set_option maxHeartbeats 4000000 in
theorem gX10_shareOf_0 {G : td_G} {d : Nat} {Post : td_P} {x1 x2 x3 : Int32} {h : td_H} (K : ¬ h 87 0 = 0 ∧ (td_J G (d + 1) mX10_shareOf Post 17 [(0, .ref 85), (1, .int x1), (2, .int x2), (3, .int x3), (4, .int (12 / (h 87 0))), (5, .int 0), (6, .int 0)] [] h)) : td_J G (d + 1) mX10_shareOf Post 0 [(0, .ref 85), (1, .int x1), (2, .int x2), (3, .int x3)] [] h := by
  refine td_bipush (v := 12) dX10_shareOf_0 (by decide) ?_
  refine td_aload_n 0 dX10_shareOf_2 rfl ?_
  refine gf_X10_13 rfl kp_85 dX10_shareOf_3 ?_
  refine td_iconst (v := 0) dX10_shareOf_6 (by decide) ?_
  refine td_ialdc (j := 0) kp_87 (by decide) (by unfold vp_in; decide) (by decide) dX10_shareOf_7 ?_
  obtain ⟨e8, K⟩ := K
  refine td_idiv dX10_shareOf_8 e8 ?_
  refine td_istore (lv2 := [(0, .ref 85), (1, .int x1), (2, .int x2), (3, .int x3), (4, .int (12 / (h 87 0)))]) dX10_shareOf_9 (by decide) rfl ?_
  refine td_iconst (v := 0) dX10_shareOf_11 (by decide) ?_
  refine td_istore (lv2 := [(0, .ref 85), (1, .int x1), (2, .int x2), (3, .int x3), (4, .int (12 / (h 87 0))), (5, .int 0)]) dX10_shareOf_12 (by decide) rfl ?_
  refine td_iconst (v := 0) dX10_shareOf_14 (by decide) ?_
  refine td_istore (lv2 := [(0, .ref 85), (1, .int x1), (2, .int x2), (3, .int x3), (4, .int (12 / (h 87 0))), (5, .int 0), (6, .int 0)]) dX10_shareOf_15 (by decide) rfl ?_
  exact K
set_option maxRecDepth 20000 in
set_option maxHeartbeats 4000000 in
theorem gX10_shareOf_17 {G : td_G} {d : Nat} {Post : td_P} {x1 x2 x3 x4 x5 x6 : Int32} {h : td_H} (K : (x4 ≤ x6 → (Post (some (.int x5)) h)) ∧ (¬ x4 ≤ x6 → td_J G (d + 1) mX10_shareOf Post 17 [(0, .ref 85), (1, .int x1), (2, .int x2), (3, .int x3), (4, .int x4), (5, .int (x5 + (if (b2i (((6 * x2).toInt64) ≤ ((jrem ((x3 + (x1 * x4)) + x6) 12).toInt64) ∧ ((jrem ((x3 + (x1 * x4)) + x6) 12).toInt64) ≤ (((6 * x2) + 2).toInt64))) = 0 then 0 else 1 : Int32))), (6, .int (x6 + 1))] [] h)) : td_J G (d + 1) mX10_shareOf Post 17 [(0, .ref 85), (1, .int x1), (2, .int x2), (3, .int x3), (4, .int x4), (5, .int x5), (6, .int x6)] [] h := by
  refine td_iload 6 dX10_shareOf_17 rfl ?_
  refine td_iload 4 dX10_shareOf_19 rfl ?_
  obtain ⟨Kt, Kf⟩ := K
  refine td_icmp_ge (tgt := 75) dX10_shareOf_21 (by decide) (fun q21 => ?_) (fun q21 => ?_)
  · have K := Kt q21
    refine td_iload 5 dX10_shareOf_75 rfl ?_
    exact td_ireturn rfl dX10_shareOf_77 K
  · have K := Kf q21
    refine td_iload_n 3 dX10_shareOf_24 rfl ?_
    refine td_iload_n 1 dX10_shareOf_25 rfl ?_
    refine td_iload 4 dX10_shareOf_26 rfl ?_
    refine td_imul dX10_shareOf_28 ?_
    refine td_iadd dX10_shareOf_29 ?_
    refine td_iload 6 dX10_shareOf_30 rfl ?_
    refine td_iadd dX10_shareOf_32 ?_
    refine td_bipush (v := 12) dX10_shareOf_33 (by decide) ?_
    refine td_irem dX10_shareOf_35 (by decide) ?_
    refine td_istore (lv2 := [(0, .ref 85), (1, .int x1), (2, .int x2), (3, .int x3), (4, .int x4), (5, .int x5), (6, .int x6), (7, .int (jrem ((x3 + (x1 * x4)) + x6) 12))]) dX10_shareOf_36 (by decide) rfl ?_
    refine td_iload 5 dX10_shareOf_38 rfl ?_
    refine td_iload 7 dX10_shareOf_40 rfl ?_
    refine td_i2l dX10_shareOf_42 ?_
    refine td_bipush (v := 6) dX10_shareOf_43 (by decide) ?_
    refine td_iload_n 2 dX10_shareOf_45 rfl ?_
    refine td_imul dX10_shareOf_46 ?_
    refine td_i2l dX10_shareOf_47 ?_
    refine td_bipush (v := 6) dX10_shareOf_48 (by decide) ?_
    refine td_iload_n 2 dX10_shareOf_50 rfl ?_
    refine td_imul dX10_shareOf_51 ?_
    refine td_iconst (v := 2) dX10_shareOf_52 (by decide) ?_
    refine td_iadd dX10_shareOf_53 ?_
    refine td_i2l dX10_shareOf_54 ?_
    refine cl_X10_75 rfl dX10_shareOf_55 (Nat.le_of_ble_eq_true rfl) (c_in ((jrem ((x3 + (x1 * x4)) + x6) 12).toInt64) ((6 * x2).toInt64) (((6 * x2) + 2).toInt64)) (eR_k ?_)
    refine td_eqs (st2 := [.int (b2i (((6 * x2).toInt64) ≤ ((jrem ((x3 + (x1 * x4)) + x6) 12).toInt64) ∧ ((jrem ((x3 + (x1 * x4)) + x6) 12).toInt64) ≤ (((6 * x2) + 2).toInt64))), .int x5]) rfl ?_
    have KJ66 : td_J G (d + 1) mX10_shareOf Post 66 [(0, .ref 85), (1, .int x1), (2, .int x2), (3, .int x3), (4, .int x4), (5, .int x5), (6, .int x6), (7, .int (jrem ((x3 + (x1 * x4)) + x6) 12))] [.int (if (b2i (((6 * x2).toInt64) ≤ ((jrem ((x3 + (x1 * x4)) + x6) 12).toInt64) ∧ ((jrem ((x3 + (x1 * x4)) + x6) 12).toInt64) ≤ (((6 * x2) + 2).toInt64))) = 0 then 0 else 1 : Int32), .int x5] h := by
      refine td_iadd dX10_shareOf_66 ?_
      refine td_istore (lv2 := [(0, .ref 85), (1, .int x1), (2, .int x2), (3, .int x3), (4, .int x4), (5, .int (x5 + (if (b2i (((6 * x2).toInt64) ≤ ((jrem ((x3 + (x1 * x4)) + x6) 12).toInt64) ∧ ((jrem ((x3 + (x1 * x4)) + x6) 12).toInt64) ≤ (((6 * x2) + 2).toInt64))) = 0 then 0 else 1 : Int32))), (6, .int x6), (7, .int (jrem ((x3 + (x1 * x4)) + x6) 12))]) dX10_shareOf_67 (by decide) rfl ?_
      refine td_iinc 6 (v := x6 + 1) (lv2 := [(0, .ref 85), (1, .int x1), (2, .int x2), (3, .int x3), (4, .int x4), (5, .int (x5 + (if (b2i (((6 * x2).toInt64) ≤ ((jrem ((x3 + (x1 * x4)) + x6) 12).toInt64) ∧ ((jrem ((x3 + (x1 * x4)) + x6) 12).toInt64) ≤ (((6 * x2) + 2).toInt64))) = 0 then 0 else 1 : Int32))), (6, .int (x6 + 1)), (7, .int (jrem ((x3 + (x1 * x4)) + x6) 12))]) dX10_shareOf_69 rfl (congrArg (x6 + ·) (by decide)) (by decide) rfl ?_
      refine td_goto (tgt := 17) dX10_shareOf_72 (by decide) ?_
      refine td_drop (lv2 := [(0, .ref 85), (1, .int x1), (2, .int x2), (3, .int x3), (4, .int x4), (5, .int (x5 + (if (b2i (((6 * x2).toInt64) ≤ ((jrem ((x3 + (x1 * x4)) + x6) 12).toInt64) ∧ ((jrem ((x3 + (x1 * x4)) + x6) 12).toInt64) ≤ (((6 * x2) + 2).toInt64))) = 0 then 0 else 1 : Int32))), (6, .int (x6 + 1))]) [0, 1, 2, 3, 4, 5, 6] rfl ?_
      exact K
    refine td_if_eq (tgt := 65) dX10_shareOf_58 (by decide) (fun q58 => ?_) (fun q58 => ?_)
    · skip
      refine td_iconst (v := 0) dX10_shareOf_65 (by decide) ?_
      exact td_to KJ66 rfl (by rw [show (if (b2i (((6 * x2).toInt64) ≤ ((jrem ((x3 + (x1 * x4)) + x6) 12).toInt64) ∧ ((jrem ((x3 + (x1 * x4)) + x6) 12).toInt64) ≤ (((6 * x2) + 2).toInt64))) = 0 then 0 else 1 : Int32) = _ from if_pos q58]) rfl
    · skip
      refine td_iconst (v := 1) dX10_shareOf_61 (by decide) ?_
      refine td_goto (tgt := 66) dX10_shareOf_62 (by decide) ?_
      exact td_to KJ66 rfl (by rw [show (if (b2i (((6 * x2).toInt64) ≤ ((jrem ((x3 + (x1 * x4)) + x6) 12).toInt64) ∧ ((jrem ((x3 + (x1 * x4)) + x6) 12).toInt64) ≤ (((6 * x2) + 2).toInt64))) = 0 then 0 else 1 : Int32) = _ from if_neg q58]) rfl
theorem c_shareOf {G : td_G} {d : Nat} {h : td_H} (c : nH) (x1 x2 x3 : Int32) (hc : rmC c h) (h1 : vp_in x1 4) (h2 : vp_in x2 2) (h3 : vp_in x3 12) : td_C G (d + 1) mX10_shareOf [.ref 85, .int x1, .int x2, .int x3] h (eR (nI (share (c 0 0) (ix x1) (ix x2) (ix x3))) h) := by
  obtain ⟨i, hi, rfl⟩ := vp_in_of h1 (by decide)
  obtain ⟨s, hs, rfl⟩ := vp_in_of h2 (by decide)
  obtain ⟨t, ht, rfl⟩ := vp_in_of h3 (by decide)
  rw [ixn (by omega), ixn (by omega), ixn (by omega)]
  have hL := hc.1.1
  have e0 : h 87 0 = nI (c 0 0) := hc.2.1 0 (by decide)
  refine td_entry rfl (Nat.le_of_ble_eq_true rfl) rfl (gX10_shareOf_0 ⟨by rw [e0]; exact nI_ne0 (by omega) (by omega), ?_⟩)
  have ew : (12 : Int32) / h 87 0 = nI (12 / c 0 0) := by
    rw [e0]
    exact pk_div (a := 12) (by decide) (by omega) (by omega)
  rw [ew]
  have hw : 12 / c 0 0 ≤ 4 := by
    rcases (by omega : c 0 0 = 3 ∨ c 0 0 = 4) with z | z <;> rw [z] <;> decide
  generalize hwe : 12 / c 0 0 = w at hw ⊢
  refine td_for w (fun k => [(0, .ref 85), (1, .int (nI i)), (2, .int (nI s)), (3, .int (nI t)), (4, .int (nI w)), (5, .int (nI (fb_ct (shB (c 0 0) i s t) k))), (6, .int (nI k))]) (fun _ => h) rfl rfl (fun k hk ih => ?_) ?_
  · refine gX10_shareOf_17 ⟨fun q => absurd (le_of q) (by omega), fun _ => ?_⟩
    refine td_to ih ?_ rfl rfl
    have hiw : i * w ≤ 12 := Nat.le_trans (Nat.mul_le_mul (by omega : i ≤ 3) hw) (by decide)
    have e1 : (nI t + (nI i * nI w)) + nI k = nI (t + i * w + k) := by rw [pk_mul, nI_add, nI_add]
    have e2 : jrem (nI (t + i * w + k)) 12 = nI ((t + i * w + k) % 12) := jrem_n (b := 12) (by omega) (by decide) (by decide)
    have e3 : (6 : Int32) * nI s = nI (6 * s) := pk_mul 6 s
    have e4 : nI (6 * s) + 2 = nI (6 * s + 2) := nI_add _ 2
    rw [e1, e2, e3, e4, nI_l (by omega), nI_l (by omega), nI_l (by omega), b2i_ite, nI_1, fb_ct_succ]
    have e5 : nI (fb_ct (shB (c 0 0) i s t) k) + (if lN (6 * s) ≤ lN ((t + i * w + k) % 12) ∧ lN ((t + i * w + k) % 12) ≤ lN (6 * s + 2) then 1 else 0) = nI (fb_ct (shB (c 0 0) i s t) k + if shB (c 0 0) i s t k = true then 1 else 0) := by
      rw [ite_c (q := shB (c 0 0) i s t k = true) (by unfold shB; rw [hwe, lN_le (by omega) (by omega), lN_le (by omega) (by omega)]; simp) 1 0]
      split
      · exact nI_1 _
      · exact nI_add _ 0
    rw [e5]
  · refine gX10_shareOf_17 ⟨fun _ => ⟨?_, rfl⟩, fun q => absurd (nle_of q) (by omega)⟩
    show some (Value.int (nI (fb_ct (shB (c 0 0) i s t) w))) = _
    unfold share
    rw [hwe]
set_option maxRecDepth 20000 in
set_option maxHeartbeats 4000000 in
theorem gX10_isOpen_0 {G : td_G} {d : Nat} {Post : td_P} {c : nH} {x1 x2 x3 : Int32} {h : td_H} (K : rmC c h ∧ vp_in x1 4 ∧ vp_in x2 2 ∧ vp_in x3 12 ∧ (((if (nI (share (c 0 0) (ix x1) (ix x2) (ix x3))) < (h 87 1) then 0 else 1 : Int32) = 0 ∨ (if (nI (share (c 0 0) (ix x1) (ix x2) (ix x3))) < (h 87 1) then 0 else 1 : Int32) = 1) ∧ Post (some (.int (if (nI (share (c 0 0) (ix x1) (ix x2) (ix x3))) < (h 87 1) then 0 else 1 : Int32))) h)) : td_J G (d + 2) mX10_isOpen Post 0 [(0, .ref 85), (1, .int x1), (2, .int x2), (3, .int x3)] [] h := by
  refine td_aload_n 0 dX10_isOpen_0 rfl ?_
  refine td_iload_n 1 dX10_isOpen_1 rfl ?_
  refine td_iload_n 2 dX10_isOpen_2 rfl ?_
  refine td_iload_n 3 dX10_isOpen_3 rfl ?_
  obtain ⟨e4_0, K⟩ := K
  obtain ⟨e4_1, K⟩ := K
  obtain ⟨e4_2, K⟩ := K
  obtain ⟨e4_3, K⟩ := K
  refine cl_X10_86 rfl kp_85 dX10_isOpen_4 (Nat.le_of_ble_eq_true rfl) (c_shareOf c x1 x2 x3 e4_0 e4_1 e4_2 e4_3) (eR_k ?_)
  refine td_eqs (st2 := [.int (nI (share (c 0 0) (ix x1) (ix x2) (ix x3)))]) rfl ?_
  refine td_aload_n 0 dX10_isOpen_7 rfl ?_
  refine gf_X10_13 rfl kp_85 dX10_isOpen_8 ?_
  refine td_iconst (v := 1) dX10_isOpen_11 (by decide) ?_
  refine td_ialdc (j := 1) kp_87 (by decide) (by unfold vp_in; decide) (by decide) dX10_isOpen_12 ?_
  have KJ21 : td_J G (d + 2) mX10_isOpen Post 21 [(0, .ref 85), (1, .int x1), (2, .int x2), (3, .int x3)] [.int (if (nI (share (c 0 0) (ix x1) (ix x2) (ix x3))) < (h 87 1) then 0 else 1 : Int32)] h := by
    obtain ⟨e21, K⟩ := K
    exact td_zreturn rfl (td_nb e21) dX10_isOpen_21 K
  refine td_icmp_lt (tgt := 20) dX10_isOpen_13 (by decide) (fun q13 => ?_) (fun q13 => ?_)
  · skip
    refine td_iconst (v := 0) dX10_isOpen_20 (by decide) ?_
    exact td_to KJ21 rfl (by rw [show (if (nI (share (c 0 0) (ix x1) (ix x2) (ix x3))) < (h 87 1) then 0 else 1 : Int32) = _ from if_pos q13]) rfl
  · skip
    refine td_iconst (v := 1) dX10_isOpen_16 (by decide) ?_
    refine td_goto (tgt := 21) dX10_isOpen_17 (by decide) ?_
    exact td_to KJ21 rfl (by rw [show (if (nI (share (c 0 0) (ix x1) (ix x2) (ix x3))) < (h 87 1) then 0 else 1 : Int32) = _ from if_neg q13]) rfl
theorem c_isOpen {G : td_G} {d : Nat} {h : td_H} (c : nH) (x1 x2 x3 : Int32) (hc : rmC c h) (h1 : vp_in x1 4) (h2 : vp_in x2 2) (h3 : vp_in x3 12) : td_C G (d + 2) mX10_isOpen [.ref 85, .int x1, .int x2, .int x3] h (eR (b2i (opn c (ix x1) (ix x2) (ix x3) = true)) h) := by
  refine td_entry rfl (Nat.le_of_ble_eq_true rfl) rfl (gX10_isOpen_0 ⟨hc, h1, h2, h3, ?_⟩)
  have e0 : h 87 1 = nI (c 0 1) := hc.2.1 1 (by decide)
  have hL := hc.1.1
  have hO := hc.1.2.1
  have hw : 12 / c 0 0 ≤ 4 := by
    rcases (by omega : c 0 0 = 3 ∨ c 0 0 = 4) with z | z <;> rw [z] <;> decide
  have hs := share_le (c 0 0) (ix x1) (ix x2) (ix x3)
  have e : (if nI (share (c 0 0) (ix x1) (ix x2) (ix x3)) < h 87 1 then 0 else 1 : Int32) = b2i (opn c (ix x1) (ix x2) (ix x3) = true) := by
    rw [e0]
    unfold opn b2i
    by_cases q : share (c 0 0) (ix x1) (ix x2) (ix x3) < c 0 1
    · rw [if_pos ((nI_ltI (by omega) (by omega)).mpr q), if_neg (by simp; omega)]
    · rw [if_neg (fun z => q (lt_of z)), if_pos (by simp; omega)]
  rw [e]
  exact ⟨b2i_01 _, rfl, rfl⟩
set_option maxRecDepth 20000 in
set_option maxHeartbeats 4000000 in
theorem gX10_inState_0 {G : td_G} {d : Nat} {Post : td_P} {x1 : Int32} {h : td_H} (K : td_J G d mX10_inState Post 4 [(0, .ref 85), (1, .int x1), (2, .int 0), (3, .int 0)] [] h) : td_J G d mX10_inState Post 0 [(0, .ref 85), (1, .int x1)] [] h := by
  refine td_iconst (v := 0) dX10_inState_0 (by decide) ?_
  refine td_istore_n (lv2 := [(0, .ref 85), (1, .int x1), (2, .int 0)]) dX10_inState_1 (by decide) rfl ?_
  refine td_iconst (v := 0) dX10_inState_2 (by decide) ?_
  refine td_istore_n (lv2 := [(0, .ref 85), (1, .int x1), (2, .int 0), (3, .int 0)]) dX10_inState_3 (by decide) rfl ?_
  exact K
set_option maxRecDepth 20000 in
set_option maxHeartbeats 4000000 in
theorem gX10_inState_4 {G : td_G} {d : Nat} {Post : td_P} {x1 x2 x3 : Int32} {h : td_H} (K : ((h 86 9) ≤ x3 → (Post (some (.int x2)) h)) ∧ (¬ (h 86 9) ≤ x3 → (vp_in x3 12 ∧ (td_J G d mX10_inState Post 4 [(0, .ref 85), (1, .int x1), (2, .int (x2 ||| (if (h 91 (ix x3)) = x1 then (jshl 1 x3) else 0 : Int32))), (3, .int (x3 + 1))] [] h)))) : td_J G d mX10_inState Post 4 [(0, .ref 85), (1, .int x1), (2, .int x2), (3, .int x3)] [] h := by
  refine td_iload_n 3 dX10_inState_4 rfl ?_
  refine td_aload_n 0 dX10_inState_5 rfl ?_
  refine gf_X10_7 rfl kp_85 dX10_inState_6 ?_
  refine td_bipush (v := 9) dX10_inState_9 (by decide) ?_
  refine td_ialdc (j := 9) kp_86 (by decide) (by unfold vp_in; decide) (by decide) dX10_inState_11 ?_
  obtain ⟨Kt, Kf⟩ := K
  refine td_icmp_ge (tgt := 41) dX10_inState_12 (by decide) (fun q12 => ?_) (fun q12 => ?_)
  · have K := Kt q12
    refine td_iload_n 2 dX10_inState_41 rfl ?_
    exact td_ireturn rfl dX10_inState_42 K
  · have K := Kf q12
    refine td_iload_n 2 dX10_inState_15 rfl ?_
    refine td_aload_n 0 dX10_inState_16 rfl ?_
    refine gf_X10_25 rfl kp_85 dX10_inState_17 ?_
    refine td_iload_n 3 dX10_inState_20 rfl ?_
    obtain ⟨e21, K⟩ := K
    refine td_ialdc (j := (ix x3)) kp_91 (by decide) e21 rfl dX10_inState_21 ?_
    refine td_iload_n 1 dX10_inState_22 rfl ?_
    have KJ33 : td_J G d mX10_inState Post 33 [(0, .ref 85), (1, .int x1), (2, .int x2), (3, .int x3)] [.int (if (h 91 (ix x3)) = x1 then (jshl 1 x3) else 0 : Int32), .int x2] h := by
      refine td_ior dX10_inState_33 ?_
      refine td_istore_n (lv2 := [(0, .ref 85), (1, .int x1), (2, .int (x2 ||| (if (h 91 (ix x3)) = x1 then (jshl 1 x3) else 0 : Int32))), (3, .int x3)]) dX10_inState_34 (by decide) rfl ?_
      refine td_iinc 3 (v := x3 + 1) (lv2 := [(0, .ref 85), (1, .int x1), (2, .int (x2 ||| (if (h 91 (ix x3)) = x1 then (jshl 1 x3) else 0 : Int32))), (3, .int (x3 + 1))]) dX10_inState_35 rfl (congrArg (x3 + ·) (by decide)) (by decide) rfl ?_
      refine td_goto (tgt := 4) dX10_inState_38 (by decide) ?_
      exact K
    refine td_icmp_ne (tgt := 32) dX10_inState_23 (by decide) (fun q23 => ?_) (fun q23 => ?_)
    · skip
      refine td_iconst (v := 0) dX10_inState_32 (by decide) ?_
      exact td_to KJ33 rfl (by rw [show (if (h 91 (ix x3)) = x1 then (jshl 1 x3) else 0 : Int32) = _ from if_neg q23]) rfl
    · skip
      refine td_iconst (v := 1) dX10_inState_26 (by decide) ?_
      refine td_iload_n 3 dX10_inState_27 rfl ?_
      refine td_ishl dX10_inState_28 ?_
      refine td_goto (tgt := 33) dX10_inState_29 (by decide) ?_
      exact td_to KJ33 rfl (by rw [show (if (h 91 (ix x3)) = x1 then (jshl 1 x3) else 0 : Int32) = _ from if_pos q23]) rfl
theorem c_inState {G : td_G} {d : Nat} {h : td_H} (c σ : nH) (x1 : Int32) (hc : rmC c h) (hs : rmS σ h) (h1 : vp_in x1 4) : td_C G d mX10_inState [.ref 85, .int x1] h (eR (ms (inSt c σ (ix x1))) h) := by
  obtain ⟨s, hs4, rfl⟩ := vp_in_of h1 (by decide)
  rw [ixn (by omega)]
  have hn := hc.1.n
  have e9 := hc.2.2.1
  refine td_entry rfl (Nat.le_of_ble_eq_true rfl) rfl (gX10_inState_0 ?_)
  refine td_for (c 1 0) (fun k => [(0, .ref 85), (1, .int (nI s)), (2, .int (nI (mk (fun p => decide (σ 0 p = s)) k))), (3, .int (nI k))]) (fun _ => h) rfl rfl (fun k hk ih => ?_) ?_
  · have hk12 : vp_in (nI k) 12 := vp_in_nI (by omega) (by decide)
    refine gX10_inState_4 ⟨fun q => absurd (le_of (by rw [e9] at q; exact q)) (by omega), fun _ => ⟨hk12, ?_⟩⟩
    refine td_to ih ?_ rfl rfl
    obtain ⟨⟨g1, g2⟩, -⟩ := hs.1 k (by omega)
    rw [ixn (by omega), g1, ite_c (q := decide (σ 0 k = s) = true) (by rw [nI_eq (by omega) (by omega)]; simp) _ _, mk_step (p := fun p => decide (σ 0 p = s)) (by omega), nI_1]
  · refine gX10_inState_4 ⟨fun _ => ⟨?_, rfl⟩, fun q => absurd (nle_of (by rw [e9] at q; exact q)) (by omega)⟩
    rw [mk_ms hn]
    rfl
set_option maxRecDepth 20000 in
set_option maxHeartbeats 4000000 in
theorem gX10_insideOf_0 {G : td_G} {d : Nat} {Post : td_P} {x1 : Int32} {h : td_H} (K : td_J G d mX10_insideOf Post 4 [(0, .ref 85), (1, .int x1), (2, .int 0), (3, .int 0)] [] h) : td_J G d mX10_insideOf Post 0 [(0, .ref 85), (1, .int x1)] [] h := by
  refine td_iconst (v := 0) dX10_insideOf_0 (by decide) ?_
  refine td_istore_n (lv2 := [(0, .ref 85), (1, .int x1), (2, .int 0)]) dX10_insideOf_1 (by decide) rfl ?_
  refine td_iconst (v := 0) dX10_insideOf_2 (by decide) ?_
  refine td_istore_n (lv2 := [(0, .ref 85), (1, .int x1), (2, .int 0), (3, .int 0)]) dX10_insideOf_3 (by decide) rfl ?_
  exact K
set_option maxRecDepth 20000 in
set_option maxHeartbeats 4000000 in
theorem gX10_insideOf_4 {G : td_G} {d : Nat} {Post : td_P} {x1 x2 x3 : Int32} {h : td_H} (K : ((h 86 9) ≤ x3 → (Post (some (.int x2)) h)) ∧ (¬ (h 86 9) ≤ x3 → (vp_in x3 12 ∧ (td_J G d mX10_insideOf Post 4 [(0, .ref 85), (1, .int x1), (2, .int (x2 ||| (if (h 91 (ix x3)) = 2 then if (h 92 (ix x3)) = x1 then (jshl 1 x3) else 0 else 0 : Int32))), (3, .int (x3 + 1))] [] h)))) : td_J G d mX10_insideOf Post 4 [(0, .ref 85), (1, .int x1), (2, .int x2), (3, .int x3)] [] h := by
  refine td_iload_n 3 dX10_insideOf_4 rfl ?_
  refine td_aload_n 0 dX10_insideOf_5 rfl ?_
  refine gf_X10_7 rfl kp_85 dX10_insideOf_6 ?_
  refine td_bipush (v := 9) dX10_insideOf_9 (by decide) ?_
  refine td_ialdc (j := 9) kp_86 (by decide) (by unfold vp_in; decide) (by decide) dX10_insideOf_11 ?_
  obtain ⟨Kt, Kf⟩ := K
  refine td_icmp_ge (tgt := 51) dX10_insideOf_12 (by decide) (fun q12 => ?_) (fun q12 => ?_)
  · have K := Kt q12
    refine td_iload_n 2 dX10_insideOf_51 rfl ?_
    exact td_ireturn rfl dX10_insideOf_52 K
  · have K := Kf q12
    refine td_iload_n 2 dX10_insideOf_15 rfl ?_
    refine td_aload_n 0 dX10_insideOf_16 rfl ?_
    refine gf_X10_25 rfl kp_85 dX10_insideOf_17 ?_
    refine td_iload_n 3 dX10_insideOf_20 rfl ?_
    obtain ⟨e21, K⟩ := K
    refine td_ialdc (j := (ix x3)) kp_91 (by decide) e21 rfl dX10_insideOf_21 ?_
    refine td_iconst (v := 2) dX10_insideOf_22 (by decide) ?_
    have KJ43 : td_J G d mX10_insideOf Post 43 [(0, .ref 85), (1, .int x1), (2, .int x2), (3, .int x3)] [.int (if (h 91 (ix x3)) = 2 then if (h 92 (ix x3)) = x1 then (jshl 1 x3) else 0 else 0 : Int32), .int x2] h := by
      refine td_ior dX10_insideOf_43 ?_
      refine td_istore_n (lv2 := [(0, .ref 85), (1, .int x1), (2, .int (x2 ||| (if (h 91 (ix x3)) = 2 then if (h 92 (ix x3)) = x1 then (jshl 1 x3) else 0 else 0 : Int32))), (3, .int x3)]) dX10_insideOf_44 (by decide) rfl ?_
      refine td_iinc 3 (v := x3 + 1) (lv2 := [(0, .ref 85), (1, .int x1), (2, .int (x2 ||| (if (h 91 (ix x3)) = 2 then if (h 92 (ix x3)) = x1 then (jshl 1 x3) else 0 else 0 : Int32))), (3, .int (x3 + 1))]) dX10_insideOf_45 rfl (congrArg (x3 + ·) (by decide)) (by decide) rfl ?_
      refine td_goto (tgt := 4) dX10_insideOf_48 (by decide) ?_
      exact K
    refine td_icmp_ne (tgt := 42) dX10_insideOf_23 (by decide) (fun q23 => ?_) (fun q23 => ?_)
    · skip
      refine td_iconst (v := 0) dX10_insideOf_42 (by decide) ?_
      exact td_to KJ43 rfl (by rw [show (if (h 91 (ix x3)) = 2 then if (h 92 (ix x3)) = x1 then (jshl 1 x3) else 0 else 0 : Int32) = _ from if_neg q23]) rfl
    · skip
      refine td_aload_n 0 dX10_insideOf_26 rfl ?_
      refine gf_X10_28 rfl kp_85 dX10_insideOf_27 ?_
      refine td_iload_n 3 dX10_insideOf_30 rfl ?_
      refine td_ialdc (j := (ix x3)) kp_92 (by decide) e21 rfl dX10_insideOf_31 ?_
      refine td_iload_n 1 dX10_insideOf_32 rfl ?_
      refine td_icmp_ne (tgt := 42) dX10_insideOf_33 (by decide) (fun q33 => ?_) (fun q33 => ?_)
      · skip
        refine td_iconst (v := 0) dX10_insideOf_42 (by decide) ?_
        exact td_to KJ43 rfl (by rw [show (if (h 91 (ix x3)) = 2 then if (h 92 (ix x3)) = x1 then (jshl 1 x3) else 0 else 0 : Int32) = _ from (if_pos q23).trans (if_neg q33)]) rfl
      · skip
        refine td_iconst (v := 1) dX10_insideOf_36 (by decide) ?_
        refine td_iload_n 3 dX10_insideOf_37 rfl ?_
        refine td_ishl dX10_insideOf_38 ?_
        refine td_goto (tgt := 43) dX10_insideOf_39 (by decide) ?_
        exact td_to KJ43 rfl (by rw [show (if (h 91 (ix x3)) = 2 then if (h 92 (ix x3)) = x1 then (jshl 1 x3) else 0 else 0 : Int32) = _ from (if_pos q23).trans (if_pos q33)]) rfl
theorem c_insideOf {G : td_G} {d : Nat} {h : td_H} (c σ : nH) (x1 : Int32) (hc : rmC c h) (hs : rmS σ h) (h1 : vp_in x1 4) : td_C G d mX10_insideOf [.ref 85, .int x1] h (eR (ms (inP c σ (ix x1))) h) := by
  obtain ⟨i, hi4, rfl⟩ := vp_in_of h1 (by decide)
  rw [ixn (by omega)]
  have hn := hc.1.n
  have e9 := hc.2.2.1
  refine td_entry rfl (Nat.le_of_ble_eq_true rfl) rfl (gX10_insideOf_0 ?_)
  refine td_for (c 1 0) (fun k => [(0, .ref 85), (1, .int (nI i)), (2, .int (nI (mk (fun p => decide (σ 0 p = 2) && decide (σ 1 p = i)) k))), (3, .int (nI k))]) (fun _ => h) rfl rfl (fun k hk ih => ?_) ?_
  · have hk12 : vp_in (nI k) 12 := vp_in_nI (by omega) (by decide)
    refine gX10_insideOf_4 ⟨fun q => absurd (le_of (by rw [e9] at q; exact q)) (by omega), fun _ => ⟨hk12, ?_⟩⟩
    refine td_to ih ?_ rfl rfl
    obtain ⟨⟨g1, g2⟩, g3, -⟩ := hs.1 k (by omega)
    have e : (if h 91 (ix (nI k)) = 2 then (if h 92 (ix (nI k)) = nI i then jshl 1 (nI k) else 0) else 0) = if (decide (σ 0 k = 2) && decide (σ 1 k = i)) = true then jshl 1 (nI k) else 0 := by
      rw [ixn (by omega), g1, ite_c (p := nI (σ 0 k) = 2) (q := σ 0 k = 2) (nI_eq (b := 2) (by omega) (by decide)) _ _]
      by_cases q : σ 0 k = 2
      · obtain ⟨g4, g5⟩ := g3 q
        rw [if_pos q, g4]
        exact ite_c (by rw [nI_eq (by omega) (by omega)]; simp [q]) _ _
      · rw [if_neg q, if_neg (by simp [q])]
    rw [e, mk_step (p := fun p => decide (σ 0 p = 2) && decide (σ 1 p = i)) (by omega), nI_1]
  · refine gX10_insideOf_4 ⟨fun _ => ⟨?_, rfl⟩, fun q => absurd (nle_of (by rw [e9] at q; exact q)) (by omega)⟩
    rw [mk_ms hn]
    rfl
set_option maxRecDepth 20000 in
set_option maxHeartbeats 4000000 in
theorem gX10_roomOf_0 {G : td_G} {d : Nat} {Post : td_P} {x1 : Int32} {h : td_H} (K : td_J G (d + 1) mX10_roomOf Post 9 [(0, .ref 85), (1, .int x1), (2, .int (h 87 2)), (3, .int 0)] [] h) : td_J G (d + 1) mX10_roomOf Post 0 [(0, .ref 85), (1, .int x1)] [] h := by
  refine td_aload_n 0 dX10_roomOf_0 rfl ?_
  refine gf_X10_13 rfl kp_85 dX10_roomOf_1 ?_
  refine td_iconst (v := 2) dX10_roomOf_4 (by decide) ?_
  refine td_ialdc (j := 2) kp_87 (by decide) (by unfold vp_in; decide) (by decide) dX10_roomOf_5 ?_
  refine td_istore_n (lv2 := [(0, .ref 85), (1, .int x1), (2, .int (h 87 2))]) dX10_roomOf_6 (by decide) rfl ?_
  refine td_iconst (v := 0) dX10_roomOf_7 (by decide) ?_
  refine td_istore_n (lv2 := [(0, .ref 85), (1, .int x1), (2, .int (h 87 2)), (3, .int 0)]) dX10_roomOf_8 (by decide) rfl ?_
  exact K
set_option maxRecDepth 20000 in
set_option maxHeartbeats 4000000 in
theorem gX10_roomOf_9 {G : td_G} {d : Nat} {Post : td_P} {c σ : nH} {x1 x2 x3 : Int32} {h : td_H} (K : ((h 86 9) ≤ x3 → (Post (some (.int x2)) h)) ∧ (¬ (h 86 9) ≤ x3 → (rmC c h ∧ rmS σ h ∧ vp_in x1 4 ∧ ((¬ (b2i ((jshr (ms (inP c σ (ix x1))) x3) &&& 1 = 1)) = 0 → (vp_in ((10 + (3 * x3)) + 2) 46 ∧ True)) ∧ (td_J G (d + 1) mX10_roomOf Post 9 [(0, .ref 85), (1, .int x1), (2, .int (x2 - (if (b2i ((jshr (ms (inP c σ (ix x1))) x3) &&& 1 = 1)) = 0 then 0 else (szI (h 86 (ix ((10 + (3 * x3)) + 2)))) : Int32))), (3, .int (x3 + 1))] [] h))))) : td_J G (d + 1) mX10_roomOf Post 9 [(0, .ref 85), (1, .int x1), (2, .int x2), (3, .int x3)] [] h := by
  refine td_iload_n 3 dX10_roomOf_9 rfl ?_
  refine td_aload_n 0 dX10_roomOf_10 rfl ?_
  refine gf_X10_7 rfl kp_85 dX10_roomOf_11 ?_
  refine td_bipush (v := 9) dX10_roomOf_14 (by decide) ?_
  refine td_ialdc (j := 9) kp_86 (by decide) (by unfold vp_in; decide) (by decide) dX10_roomOf_16 ?_
  obtain ⟨Kt, Kf⟩ := K
  refine td_icmp_ge (tgt := 54) dX10_roomOf_17 (by decide) (fun q17 => ?_) (fun q17 => ?_)
  · have K := Kt q17
    refine td_iload_n 2 dX10_roomOf_54 rfl ?_
    exact td_ireturn rfl dX10_roomOf_55 K
  · have K := Kf q17
    refine td_iload_n 2 dX10_roomOf_20 rfl ?_
    refine td_aload_n 0 dX10_roomOf_21 rfl ?_
    refine td_iload_n 1 dX10_roomOf_22 rfl ?_
    obtain ⟨e23_0, K⟩ := K
    obtain ⟨e23_1, K⟩ := K
    obtain ⟨e23_2, K⟩ := K
    refine cl_X10_163 rfl kp_85 dX10_roomOf_23 (Nat.le_of_ble_eq_true rfl) (c_insideOf c σ x1 e23_0 e23_1 e23_2) (eR_k ?_)
    refine td_eqs (st2 := [.int (ms (inP c σ (ix x1))), .int x2]) rfl ?_
    refine td_iload_n 3 dX10_roomOf_26 rfl ?_
    refine cl_X10_166 rfl dX10_roomOf_27 (Nat.le_of_ble_eq_true rfl) (c_has (ms (inP c σ (ix x1))) x3) (eR_k ?_)
    refine td_eqs (st2 := [.int (b2i ((jshr (ms (inP c σ (ix x1))) x3) &&& 1 = 1)), .int x2]) rfl ?_
    obtain ⟨Ks30, K⟩ := K
    have KJ46 : td_J G (d + 1) mX10_roomOf Post 46 [(0, .ref 85), (1, .int x1), (2, .int x2), (3, .int x3)] [.int (if (b2i ((jshr (ms (inP c σ (ix x1))) x3) &&& 1 = 1)) = 0 then 0 else (szI (h 86 (ix ((10 + (3 * x3)) + 2)))) : Int32), .int x2] h := by
      refine td_isub dX10_roomOf_46 ?_
      refine td_istore_n (lv2 := [(0, .ref 85), (1, .int x1), (2, .int (x2 - (if (b2i ((jshr (ms (inP c σ (ix x1))) x3) &&& 1 = 1)) = 0 then 0 else (szI (h 86 (ix ((10 + (3 * x3)) + 2)))) : Int32))), (3, .int x3)]) dX10_roomOf_47 (by decide) rfl ?_
      refine td_iinc 3 (v := x3 + 1) (lv2 := [(0, .ref 85), (1, .int x1), (2, .int (x2 - (if (b2i ((jshr (ms (inP c σ (ix x1))) x3) &&& 1 = 1)) = 0 then 0 else (szI (h 86 (ix ((10 + (3 * x3)) + 2)))) : Int32))), (3, .int (x3 + 1))]) dX10_roomOf_48 rfl (congrArg (x3 + ·) (by decide)) (by decide) rfl ?_
      refine td_goto (tgt := 9) dX10_roomOf_51 (by decide) ?_
      exact K
    refine td_if_eq (tgt := 45) dX10_roomOf_30 (by decide) (fun q30 => ?_) (fun q30 => ?_)
    · skip
      refine td_iconst (v := 0) dX10_roomOf_45 (by decide) ?_
      exact td_to KJ46 rfl (by rw [show (if (b2i ((jshr (ms (inP c σ (ix x1))) x3) &&& 1 = 1)) = 0 then 0 else (szI (h 86 (ix ((10 + (3 * x3)) + 2)))) : Int32) = _ from if_pos q30]) rfl
    · have K := Ks30 q30
      refine td_aload_n 0 dX10_roomOf_33 rfl ?_
      refine td_iload_n 3 dX10_roomOf_34 rfl ?_
      refine td_iconst (v := 2) dX10_roomOf_35 (by decide) ?_
      obtain ⟨e36_0, K⟩ := K
      refine cl_X10_94 rfl kp_85 dX10_roomOf_36 (Nat.le_of_ble_eq_true rfl) (c_of x3 2 e36_0) (eR_k ?_)
      refine td_eqs (st2 := [.int (h 86 (ix ((10 + (3 * x3)) + 2))), .int x2]) rfl ?_
      refine cl_X10_124 rfl dX10_roomOf_39 (Nat.le_of_ble_eq_true rfl) (c_sizeOf (h 86 (ix ((10 + (3 * x3)) + 2)))) (eR_k ?_)
      refine td_eqs (st2 := [.int (szI (h 86 (ix ((10 + (3 * x3)) + 2)))), .int x2]) rfl ?_
      refine td_goto (tgt := 46) dX10_roomOf_42 (by decide) ?_
      exact td_to KJ46 rfl (by rw [show (if (b2i ((jshr (ms (inP c σ (ix x1))) x3) &&& 1 = 1)) = 0 then 0 else (szI (h 86 (ix ((10 + (3 * x3)) + 2)))) : Int32) = _ from if_neg q30]) rfl
theorem c_roomOf {G : td_G} {d : Nat} {h : td_H} (c σ : nH) (x1 : Int32) (hc : rmC c h) (hs : rmS σ h) (h1 : vp_in x1 4) : td_C G (d + 1) mX10_roomOf [.ref 85, .int x1] h (eR (nI (c 0 2) - nI (used c σ (ix x1))) h) := by
  obtain ⟨i, hi4, rfl⟩ := vp_in_of h1 (by decide)
  have hix : ix (nI i) = i := ixn (by omega)
  rw [hix]
  have hn := hc.1.n
  have e9 := hc.2.2.1
  have e2 : h 87 2 = nI (c 0 2) := hc.2.1 2 (by decide)
  refine td_entry rfl (Nat.le_of_ble_eq_true rfl) rfl (gX10_roomOf_0 ?_)
  refine td_for (c 1 0) (fun k => [(0, .ref 85), (1, .int (nI i)), (2, .int (nI (c 0 2) - nI (fb_sm (fun p => if inP c σ i p then szk (c 3 p) else 0) k))), (3, .int (nI k))]) (fun _ => h) (by rw [e2]; show _ = [(0, Value.ref 85), (1, Value.int (nI i)), (2, Value.int (nI (c 0 2) - nI 0)), (3, Value.int (nI 0))]; rw [pk_sub (Nat.zero_le _)]; rfl) rfl (fun k hk ih => ?_) ?_
  · have hk12 : k < 12 := by omega
    have v2 : vp_in (10 + 3 * nI k + 2) 46 := of_in hk12 (w := 2) (by decide)
    refine gX10_roomOf_9 (c := c) (σ := σ) ⟨fun q => absurd (le_of (by rw [e9] at q; exact q)) (by omega), fun _ => ⟨hc, hs, h1, fun _ => ⟨v2, trivial⟩, ?_⟩⟩
    refine td_to ih ?_ rfl rfl
    have e : (if b2i ((jshr (ms (inP c σ (ix (nI i)))) (nI k)) &&& 1 = 1) = 0 then 0 else szI (h 86 (ix (10 + 3 * nI k + 2)))) = nI (if inP c σ i k then szk (c 3 k) else 0) := by
      rw [b2i_ite, of_2 hc hk, sz_n (hc.1.p hk).2.1, ms_bit _ hk12, hix]
      by_cases q : inP c σ i k = true
      · rw [if_pos q, if_pos rfl, if_pos q]
      · rw [if_neg q, if_neg (by decide), if_neg q]
        rfl
    rw [e, nI_1]
    show _ = [(0, Value.ref 85), (1, Value.int (nI i)), (2, Value.int (nI (c 0 2) - nI (fb_sm (fun p => if inP c σ i p then szk (c 3 p) else 0) k + (if inP c σ i k then szk (c 3 k) else 0)))), (3, Value.int (nI (k + 1)))]
    rw [Int32.sub_sub, nI_add]
  · refine gX10_roomOf_9 (c := c) (σ := σ) ⟨fun _ => ⟨rfl, rfl⟩, fun q => absurd (nle_of (by rw [e9] at q; exact q)) (by omega)⟩
