/-! ===== the model: sheets ===== -/
set_option maxRecDepth 20000 in
set_option maxHeartbeats 4000000 in
theorem gX10_isSheet_0 {G : td_G} {d : Nat} {Post : td_P} {x0 x1 : Int32} {h : td_H} (K : ((if (b2i (0 ≤ x0.toInt64 ∧ x0.toInt64 ≤ 3)) = 0 then 0 else if (b2i (0 ≤ x1.toInt64 ∧ x1.toInt64 ≤ 2)) = 0 then 0 else 1 : Int32) = 0 ∨ (if (b2i (0 ≤ x0.toInt64 ∧ x0.toInt64 ≤ 3)) = 0 then 0 else if (b2i (0 ≤ x1.toInt64 ∧ x1.toInt64 ≤ 2)) = 0 then 0 else 1 : Int32) = 1) ∧ Post (some (.int (if (b2i (0 ≤ x0.toInt64 ∧ x0.toInt64 ≤ 3)) = 0 then 0 else if (b2i (0 ≤ x1.toInt64 ∧ x1.toInt64 ≤ 2)) = 0 then 0 else 1 : Int32))) h) : td_J G (d + 1) mX10_isSheet Post 0 [(0, .int x0), (1, .int x1)] [] h := by
  refine td_iload_n 0 dX10_isSheet_0 rfl ?_
  refine td_i2l dX10_isSheet_1 ?_
  refine td_lconst (v := 0) dX10_isSheet_2 (by decide) ?_
  refine td_ldc2 (v := 3) kw_X10_226 dX10_isSheet_3 ?_
  refine cl_X10_75 rfl dX10_isSheet_6 (Nat.le_of_ble_eq_true rfl) (c_in x0.toInt64 0 3) (eR_k ?_)
  refine td_eqs (st2 := [.int (b2i (0 ≤ x0.toInt64 ∧ x0.toInt64 ≤ 3))]) rfl ?_
  have KJ29 : td_J G (d + 1) mX10_isSheet Post 29 [(0, .int x0), (1, .int x1)] [.int (if (b2i (0 ≤ x0.toInt64 ∧ x0.toInt64 ≤ 3)) = 0 then 0 else if (b2i (0 ≤ x1.toInt64 ∧ x1.toInt64 ≤ 2)) = 0 then 0 else 1 : Int32)] h := by
    obtain ⟨e29, K⟩ := K
    exact td_zreturn rfl (td_nb e29) dX10_isSheet_29 K
  refine td_if_eq (tgt := 28) dX10_isSheet_9 (by decide) (fun q9 => ?_) (fun q9 => ?_)
  · skip
    refine td_iconst (v := 0) dX10_isSheet_28 (by decide) ?_
    exact td_to KJ29 rfl (by rw [show (if (b2i (0 ≤ x0.toInt64 ∧ x0.toInt64 ≤ 3)) = 0 then 0 else if (b2i (0 ≤ x1.toInt64 ∧ x1.toInt64 ≤ 2)) = 0 then 0 else 1 : Int32) = _ from if_pos q9]) rfl
  · skip
    refine td_iload_n 1 dX10_isSheet_12 rfl ?_
    refine td_i2l dX10_isSheet_13 ?_
    refine td_lconst (v := 0) dX10_isSheet_14 (by decide) ?_
    refine td_ldc2 (v := 2) kw_X10_253 dX10_isSheet_15 ?_
    refine cl_X10_75 rfl dX10_isSheet_18 (Nat.le_of_ble_eq_true rfl) (c_in x1.toInt64 0 2) (eR_k ?_)
    refine td_eqs (st2 := [.int (b2i (0 ≤ x1.toInt64 ∧ x1.toInt64 ≤ 2))]) rfl ?_
    refine td_if_eq (tgt := 28) dX10_isSheet_21 (by decide) (fun q21 => ?_) (fun q21 => ?_)
    · skip
      refine td_iconst (v := 0) dX10_isSheet_28 (by decide) ?_
      exact td_to KJ29 rfl (by rw [show (if (b2i (0 ≤ x0.toInt64 ∧ x0.toInt64 ≤ 3)) = 0 then 0 else if (b2i (0 ≤ x1.toInt64 ∧ x1.toInt64 ≤ 2)) = 0 then 0 else 1 : Int32) = _ from (if_neg q9).trans (if_pos q21)]) rfl
    · skip
      refine td_iconst (v := 1) dX10_isSheet_24 (by decide) ?_
      refine td_goto (tgt := 29) dX10_isSheet_25 (by decide) ?_
      exact td_to KJ29 rfl (by rw [show (if (b2i (0 ≤ x0.toInt64 ∧ x0.toInt64 ≤ 3)) = 0 then 0 else if (b2i (0 ≤ x1.toInt64 ∧ x1.toInt64 ≤ 2)) = 0 then 0 else 1 : Int32) = _ from (if_neg q9).trans (if_neg q21)]) rfl
theorem c_isSheet {G : td_G} {d : Nat} {h : td_H} (x1 x2 : Int32) : td_C G (d + 1) mX10_isSheet [.int x1, .int x2] h (eR (b2i ((0 ≤ x1 ∧ x1 < 4) ∧ (0 ≤ x2 ∧ x2 < 3))) h) := by
  refine td_entry rfl (Nat.le_of_ble_eq_true rfl) rfl (gX10_isSheet_0 ?_)
  have e : (if (b2i ((0 : Int64) ≤ x1.toInt64 ∧ x1.toInt64 ≤ 3)) = 0 then 0 else if (b2i ((0 : Int64) ≤ x2.toInt64 ∧ x2.toInt64 ≤ 2)) = 0 then 0 else 1 : Int32) = b2i ((0 ≤ x1 ∧ x1 < 4) ∧ (0 ≤ x2 ∧ x2 < 3)) := by
    by_cases o1 : 0 ≤ x1 ∧ x1 < 4
    · rw [if_neg (show ¬ b2i ((0 : Int64) ≤ x1.toInt64 ∧ x1.toInt64 ≤ 3) = 0 from fun y => bz y (iq 3 o1))]
      by_cases o2 : 0 ≤ x2 ∧ x2 < 3
      · rw [if_neg (show ¬ b2i ((0 : Int64) ≤ x2.toInt64 ∧ x2.toInt64 ≤ 2) = 0 from fun y => bz y (iq 2 o2)), b2i_t ⟨o1, o2⟩]
      · rw [if_pos (show b2i ((0 : Int64) ≤ x2.toInt64 ∧ x2.toInt64 ≤ 2) = 0 from b2i_f (fun y => o2 (iqn 2 y))), b2i_f (fun z => o2 z.2)]
    · rw [if_pos (show b2i ((0 : Int64) ≤ x1.toInt64 ∧ x1.toInt64 ≤ 3) = 0 from b2i_f (fun y => o1 (iqn 3 y))), b2i_f (fun z => o1 z.1)]
  rw [e]
  exact ⟨b2i_01 _, rfl, rfl⟩
set_option maxRecDepth 20000 in
set_option maxHeartbeats 4000000 in
theorem gX10_lacksRow_0 {G : td_G} {d : Nat} {Post : td_P} {x1 x2 x3 x4 : Int32} {h : td_H} (K : vp_in x1 4 ∧ (((h 104 (ix x1)) = x2 → (Post (some (.int (if (b2i (0 ≤ x3.toInt64 ∧ x3.toInt64 ≤ (((h 105 (ix x1)) - x4).toInt64))) = 0 then (-13) else 0 : Int32))) h)) ∧ (¬ (h 104 (ix x1)) = x2 → (Post (some (.int (if 0 ≤ (h 104 (ix x1)) then (-12) else (-11) : Int32))) h)))) : td_J G (d + 1) mX10_lacksRow Post 0 [(0, .ref 85), (1, .int x1), (2, .int x2), (3, .int x3), (4, .int x4)] [] h := by
  refine td_aload_n 0 dX10_lacksRow_0 rfl ?_
  refine gf_X10_64 rfl kp_85 dX10_lacksRow_1 ?_
  refine td_iload_n 1 dX10_lacksRow_4 rfl ?_
  obtain ⟨e5, K⟩ := K
  refine td_ialdc (j := (ix x1)) kp_104 (by decide) e5 rfl dX10_lacksRow_5 ?_
  refine td_iload_n 2 dX10_lacksRow_6 rfl ?_
  obtain ⟨Kt, Kf⟩ := K
  refine td_icmp_eq (tgt := 27) dX10_lacksRow_7 (by decide) (fun q7 => ?_) (fun q7 => ?_)
  · have K := Kt q7
    refine td_iload_n 3 dX10_lacksRow_27 rfl ?_
    refine td_i2l dX10_lacksRow_28 ?_
    refine td_lconst (v := 0) dX10_lacksRow_29 (by decide) ?_
    refine td_aload_n 0 dX10_lacksRow_30 rfl ?_
    refine gf_X10_67 rfl kp_85 dX10_lacksRow_31 ?_
    refine td_iload_n 1 dX10_lacksRow_34 rfl ?_
    refine td_ialdc (j := (ix x1)) kp_105 (by decide) e5 rfl dX10_lacksRow_35 ?_
    refine td_iload 4 dX10_lacksRow_36 rfl ?_
    refine td_isub dX10_lacksRow_38 ?_
    refine td_i2l dX10_lacksRow_39 ?_
    refine cl_X10_75 rfl dX10_lacksRow_40 (Nat.le_of_ble_eq_true rfl) (c_in x3.toInt64 0 (((h 105 (ix x1)) - x4).toInt64)) (eR_k ?_)
    refine td_eqs (st2 := [.int (b2i (0 ≤ x3.toInt64 ∧ x3.toInt64 ≤ (((h 105 (ix x1)) - x4).toInt64)))]) rfl ?_
    have KJ52 : td_J G (d + 1) mX10_lacksRow Post 52 [(0, .ref 85), (1, .int x1), (2, .int x2), (3, .int x3), (4, .int x4)] [.int (if (b2i (0 ≤ x3.toInt64 ∧ x3.toInt64 ≤ (((h 105 (ix x1)) - x4).toInt64))) = 0 then (-13) else 0 : Int32)] h := by
      exact td_ireturn rfl dX10_lacksRow_52 K
    refine td_if_eq (tgt := 50) dX10_lacksRow_43 (by decide) (fun q43 => ?_) (fun q43 => ?_)
    · skip
      refine td_bipush (v := (-13)) dX10_lacksRow_50 (by decide) ?_
      exact td_to KJ52 rfl (by rw [show (if (b2i (0 ≤ x3.toInt64 ∧ x3.toInt64 ≤ (((h 105 (ix x1)) - x4).toInt64))) = 0 then (-13) else 0 : Int32) = _ from if_pos q43]) rfl
    · skip
      refine td_iconst (v := 0) dX10_lacksRow_46 (by decide) ?_
      refine td_goto (tgt := 52) dX10_lacksRow_47 (by decide) ?_
      exact td_to KJ52 rfl (by rw [show (if (b2i (0 ≤ x3.toInt64 ∧ x3.toInt64 ≤ (((h 105 (ix x1)) - x4).toInt64))) = 0 then (-13) else 0 : Int32) = _ from if_neg q43]) rfl
  · have K := Kf q7
    refine td_aload_n 0 dX10_lacksRow_10 rfl ?_
    refine gf_X10_64 rfl kp_85 dX10_lacksRow_11 ?_
    refine td_iload_n 1 dX10_lacksRow_14 rfl ?_
    refine td_ialdc (j := (ix x1)) kp_104 (by decide) e5 rfl dX10_lacksRow_15 ?_
    have KJ26 : td_J G (d + 1) mX10_lacksRow Post 26 [(0, .ref 85), (1, .int x1), (2, .int x2), (3, .int x3), (4, .int x4)] [.int (if 0 ≤ (h 104 (ix x1)) then (-12) else (-11) : Int32)] h := by
      exact td_ireturn rfl dX10_lacksRow_26 K
    refine td_if_ge (tgt := 24) dX10_lacksRow_16 (by decide) (fun q16 => ?_) (fun q16 => ?_)
    · skip
      refine td_bipush (v := (-12)) dX10_lacksRow_24 (by decide) ?_
      exact td_to KJ26 rfl (by rw [show (if 0 ≤ (h 104 (ix x1)) then (-12) else (-11) : Int32) = _ from if_pos q16]) rfl
    · skip
      refine td_bipush (v := (-11)) dX10_lacksRow_19 (by decide) ?_
      refine td_goto (tgt := 26) dX10_lacksRow_21 (by decide) ?_
      exact td_to KJ26 rfl (by rw [show (if 0 ≤ (h 104 (ix x1)) then (-12) else (-11) : Int32) = _ from if_neg q16]) rfl
theorem c_lacks {G : td_G} {d : Nat} {h : td_H} (x1 x2 x3 x4 : Int32) (v1 : vp_in x1 4) (w1 : h 104 (ix x1) = -1 ∨ vp_in (h 104 (ix x1)) 3) (v2 : 0 ≤ x2 ∧ x2 < 3) : td_C G (d + 1) mX10_lacksRow [.ref 85, .int x1, .int x2, .int x3, .int x4] h (eR (rfI (h 104 (ix x1)) (h 105 (ix x1)) x2 x3 x4) h) := by
  refine td_entry rfl (Nat.le_of_ble_eq_true rfl) rfl (gX10_lacksRow_0 ⟨v1, fun y => ⟨?_, rfl⟩, fun y => ⟨?_, rfl⟩⟩)
  · unfold rfI
    have n1 : ¬ h 104 (ix x1) = -1 := fun z => by
      rw [← y, z] at v2; exact absurd v2.1 (by decide)
    rw [if_neg n1, if_pos y]
    by_cases f0 : x3 < 0
    · rw [if_pos f0, if_pos (b2i_f (fun z => ?_))]
      have := z.1
      rw [fa_le64, Int32.toInt_toInt64, show (0 : Int64).toInt = 0 by decide] at this
      rw [fa_lt, Int32.toInt_zero] at f0
      omega
    · rw [if_neg f0]
      have p0 : (0 : Int64) ≤ x3.toInt64 := by
        rw [fa_le64, Int32.toInt_toInt64, show (0 : Int64).toInt = 0 by decide]
        rw [fa_lt, Int32.toInt_zero] at f0
        omega
      by_cases f1 : x3 ≤ h 105 (ix x1) - x4
      · rw [if_pos f1, if_neg (fun z => bz z ⟨p0, (fa_wide_le _ _).mpr f1⟩)]
      · rw [if_neg f1, if_pos (b2i_f (fun z => f1 ((fa_wide_le _ _).mp z.2)))]
  · unfold rfI
    by_cases z : h 104 (ix x1) = -1
    · rw [z, if_pos rfl, if_neg (by decide)]
    · rw [if_neg z, if_neg y]
      have v := w1.resolve_left z
      obtain ⟨k, hk, e⟩ := vp_in_of v (by decide)
      rw [e, if_pos (show (0 : Int32) ≤ nI k from (nI_leI (a := 0) (by decide) (by omega)).mpr (Nat.zero_le _))]
set_option maxRecDepth 20000 in
set_option maxHeartbeats 4000000 in
theorem gX10_cutTo_0 {G : td_G} {d : Nat} {Post : td_P} {x0 x1 : Int32} {h : td_H} (K : Post (some (.int (if x0 = 0 then (jshr (jshl x1 24) 24) else if x0 = 1 then (jshr (jshl x1 16) 16) else x1 : Int32))) h) : td_J G d mX10_cutTo Post 0 [(0, .int x0), (1, .int x1)] [] h := by
  refine td_iload_n 0 dX10_cutTo_0 rfl ?_
  have KJ30 : td_J G d mX10_cutTo Post 30 [(0, .int x0), (1, .int x1)] [.int (if x0 = 0 then (jshr (jshl x1 24) 24) else if x0 = 1 then (jshr (jshl x1 16) 16) else x1 : Int32)] h := by
    exact td_ireturn rfl dX10_cutTo_30 K
  refine td_if_ne (tgt := 14) dX10_cutTo_1 (by decide) (fun q1 => ?_) (fun q1 => ?_)
  · skip
    refine td_iload_n 0 dX10_cutTo_14 rfl ?_
    refine td_iconst (v := 1) dX10_cutTo_15 (by decide) ?_
    refine td_icmp_ne (tgt := 29) dX10_cutTo_16 (by decide) (fun q16 => ?_) (fun q16 => ?_)
    · skip
      refine td_iload_n 1 dX10_cutTo_29 rfl ?_
      exact td_to KJ30 rfl (by rw [show (if x0 = 0 then (jshr (jshl x1 24) 24) else if x0 = 1 then (jshr (jshl x1 16) 16) else x1 : Int32) = _ from (if_neg q1).trans (if_neg q16)]) rfl
    · skip
      refine td_iload_n 1 dX10_cutTo_19 rfl ?_
      refine td_bipush (v := 16) dX10_cutTo_20 (by decide) ?_
      refine td_ishl dX10_cutTo_22 ?_
      refine td_bipush (v := 16) dX10_cutTo_23 (by decide) ?_
      refine td_ishr dX10_cutTo_25 ?_
      refine td_goto (tgt := 30) dX10_cutTo_26 (by decide) ?_
      exact td_to KJ30 rfl (by rw [show (if x0 = 0 then (jshr (jshl x1 24) 24) else if x0 = 1 then (jshr (jshl x1 16) 16) else x1 : Int32) = _ from (if_neg q1).trans (if_pos q16)]) rfl
  · skip
    refine td_iload_n 1 dX10_cutTo_4 rfl ?_
    refine td_bipush (v := 24) dX10_cutTo_5 (by decide) ?_
    refine td_ishl dX10_cutTo_7 ?_
    refine td_bipush (v := 24) dX10_cutTo_8 (by decide) ?_
    refine td_ishr dX10_cutTo_10 ?_
    refine td_goto (tgt := 30) dX10_cutTo_11 (by decide) ?_
    exact td_to KJ30 rfl (by rw [show (if x0 = 0 then (jshr (jshl x1 24) 24) else if x0 = 1 then (jshr (jshl x1 16) 16) else x1 : Int32) = _ from if_pos q1]) rfl
theorem cut_bv (b : BitVec 32) (n k : Nat) (hk : n + k = 32) (hn : 0 < n) (w : BitVec n) (hw : w = b.signExtend n) : (b <<< k).sshiftRight k = w.signExtend 32 := by
  subst hw
  apply BitVec.eq_of_getLsbD_eq
  intro i hi
  have m1 : (b <<< k).msb = b.getLsbD (n - 1) := by
    rw [BitVec.msb_eq_getLsbD_last, BitVec.getLsbD_shiftLeft]
    have a1 : decide (32 - 1 < 32) = true := by decide
    have a2 : decide (32 - 1 < k) = false := by simp; omega
    rw [a1, a2, show 32 - 1 - k = n - 1 by omega]
    rfl
  have m2 : (b.signExtend n).msb = b.getLsbD (n - 1) := by
    rw [BitVec.msb_eq_getLsbD_last, BitVec.getLsbD_signExtend, if_pos (by omega)]
    have a1 : decide (n - 1 < n) = true := by simp; omega
    rw [a1]
    rfl
  rw [BitVec.getLsbD_sshiftRight, BitVec.getLsbD_signExtend, m1, m2]
  have b1 : decide (32 ≤ i) = false := by simp; omega
  have b2 : decide (i < 32) = true := by simp; omega
  rw [b1, b2]
  by_cases z : i < n
  · rw [if_pos (by omega), if_pos z, BitVec.getLsbD_shiftLeft, BitVec.getLsbD_signExtend, if_pos hi]
    have c1 : decide (k + i < 32) = true := by simp; omega
    have c2 : decide (k + i < k) = false := by simp
    have c3 : decide (i < n) = true := by simp; omega
    rw [c1, c2, c3, show k + i - k = i by omega]
    rfl
  · rw [if_neg (by omega), if_neg z]
    rfl
theorem cut_24 (x : Int32) : jshr (jshl x 24) 24 = x.toInt8.toInt32 := by
  apply Int32.toBitVec_inj.1
  exact cut_bv x.toBitVec 8 24 rfl (by decide) _ rfl
theorem cut_16 (x : Int32) : jshr (jshl x 16) 16 = x.toInt16.toInt32 := by
  apply Int32.toBitVec_inj.1
  exact cut_bv x.toBitVec 16 16 rfl (by decide) _ rfl
theorem c_cutTo {G : td_G} {d : Nat} {h : td_H} (x1 x2 : Int32) : td_C G d mX10_cutTo [.int x1, .int x2] h (eR (cutI x1 x2) h) := by
  refine td_entry rfl (Nat.le_of_ble_eq_true rfl) rfl (gX10_cutTo_0 ⟨?_, rfl⟩)
  rw [cut_24, cut_16]
  rfl
theorem MI.sh {s : gS} {h h1 : td_H} (x : MI s h) (S' : Nat → Nat → Int32) (hS : shM S' h1) (e : ∀ a b, a < 104 → h1 a b = h a b) : MI (s.1, s.2.1, s.2.2.1, S') h1 ∧ FD h h1 := ⟨⟨x.1.fr (fun b => e _ _ (by decide)), x.2.1.fr (e _ _ (by decide)) (fun b => e _ _ (by decide)), x.2.2.1.fr (e _ _ (by decide)) (fun b => e _ _ (by decide)), hS⟩, fun a b z => e a b (by omega)⟩
theorem ix_16 {k i : Nat} (hk : k < 4) (hi : i < 16) : 16 * nI k + nI i = nI (16 * k + i) := by rw [show (16 : Int32) = nI 16 from rfl, pk_mul, nI_add]
theorem rfI_nn {ln sz l f n : Int32} : 0 ≤ rfI ln sz l f n ↔ rfI ln sz l f n = 0 := by
  unfold rfI
  split
  · decide
  · split
    · split
      · decide
      · split <;> decide
    · decide
set_option maxRecDepth 20000 in
set_option maxHeartbeats 4000000 in
theorem gX10_sheet_0 {G : td_G} {d : Nat} {Post : td_P} {x1 x2 x3 : Int32} {h : td_H} (K : ((b2i ((0 ≤ x1 ∧ x1 < 4) ∧ (0 ≤ x2 ∧ x2 < 3))) = 0 → (Post (some (.int (-1))) h)) ∧ (¬ (b2i ((0 ≤ x1 ∧ x1 < 4) ∧ (0 ≤ x2 ∧ x2 < 3))) = 0 → ((x3 ≤ 16 → ((0 ≤ x3 → (vp_in x1 4 ∧ (td_J G (d + 2) mX10_sheet Post 40 [(0, .ref 85), (1, .int x1), (2, .int x2), (3, .int x3), (4, .int 0)] [] (hu (hu h 104 (ix x1) x2) 105 (ix x1) x3)))) ∧ (¬ 0 ≤ x3 → (Post (some (.int (-14))) h)))) ∧ (¬ x3 ≤ 16 → (Post (some (.int (-1))) h))))) : td_J G (d + 2) mX10_sheet Post 0 [(0, .ref 85), (1, .int x1), (2, .int x2), (3, .int x3)] [] h := by
  refine td_iload_n 1 dX10_sheet_0 rfl ?_
  refine td_iload_n 2 dX10_sheet_1 rfl ?_
  refine cl_X10_250 rfl dX10_sheet_2 (Nat.le_of_ble_eq_true rfl) (c_isSheet x1 x2) (eR_k ?_)
  refine td_eqs (st2 := [.int (b2i ((0 ≤ x1 ∧ x1 < 4) ∧ (0 ≤ x2 ∧ x2 < 3)))]) rfl ?_
  obtain ⟨Kt, Kf⟩ := K
  refine td_if_eq (tgt := 14) dX10_sheet_5 (by decide) (fun q5 => ?_) (fun q5 => ?_)
  · have K := Kt q5
    refine td_iconst (v := (-1)) dX10_sheet_14 (by decide) ?_
    exact td_ireturn rfl dX10_sheet_15 K
  · have K := Kf q5
    refine td_iload_n 3 dX10_sheet_8 rfl ?_
    refine td_bipush (v := 16) dX10_sheet_9 (by decide) ?_
    obtain ⟨Kt, Kf⟩ := K
    refine td_icmp_le (tgt := 16) dX10_sheet_11 (by decide) (fun q11 => ?_) (fun q11 => ?_)
    · have K := Kt q11
      refine td_iload_n 3 dX10_sheet_16 rfl ?_
      obtain ⟨Kt, Kf⟩ := K
      refine td_if_ge (tgt := 23) dX10_sheet_17 (by decide) (fun q17 => ?_) (fun q17 => ?_)
      · have K := Kt q17
        refine td_aload_n 0 dX10_sheet_23 rfl ?_
        refine gf_X10_64 rfl kp_85 dX10_sheet_24 ?_
        refine td_iload_n 1 dX10_sheet_27 rfl ?_
        refine td_iload_n 2 dX10_sheet_28 rfl ?_
        obtain ⟨e29, K⟩ := K
        refine td_iastc (j := (ix x1)) kp_104 (by decide) e29 rfl dX10_sheet_29 ?_
        refine td_aload_n 0 dX10_sheet_30 rfl ?_
        refine gf_X10_67 rfl kp_85 dX10_sheet_31 ?_
        refine td_iload_n 1 dX10_sheet_34 rfl ?_
        refine td_iload_n 3 dX10_sheet_35 rfl ?_
        refine td_iastc (j := (ix x1)) kp_105 (by decide) e29 rfl dX10_sheet_36 ?_
        refine td_iconst (v := 0) dX10_sheet_37 (by decide) ?_
        refine td_istore (lv2 := [(0, .ref 85), (1, .int x1), (2, .int x2), (3, .int x3), (4, .int 0)]) dX10_sheet_38 (by decide) rfl ?_
        exact K
      · have K := Kf q17
        refine td_bipush (v := (-14)) dX10_sheet_20 (by decide) ?_
        exact td_ireturn rfl dX10_sheet_22 K
    · have K := Kf q11
      refine td_iconst (v := (-1)) dX10_sheet_14 (by decide) ?_
      exact td_ireturn rfl dX10_sheet_15 K
set_option maxRecDepth 20000 in
set_option maxHeartbeats 4000000 in
theorem gX10_sheet_40 {G : td_G} {d : Nat} {Post : td_P} {x1 x2 x3 x4 : Int32} {h : td_H} (K : (16 ≤ x4 → (Post (some (.int x3)) h)) ∧ (¬ 16 ≤ x4 → (vp_in ((16 * x1) + x4) 64 ∧ (td_J G (d + 2) mX10_sheet Post 40 [(0, .ref 85), (1, .int x1), (2, .int x2), (3, .int x3), (4, .int (x4 + 1))] [] (hu h 106 (ix ((16 * x1) + x4)) 0))))) : td_J G (d + 2) mX10_sheet Post 40 [(0, .ref 85), (1, .int x1), (2, .int x2), (3, .int x3), (4, .int x4)] [] h := by
  refine td_iload 4 dX10_sheet_40 rfl ?_
  refine td_bipush (v := 16) dX10_sheet_42 (by decide) ?_
  obtain ⟨Kt, Kf⟩ := K
  refine td_icmp_ge (tgt := 66) dX10_sheet_44 (by decide) (fun q44 => ?_) (fun q44 => ?_)
  · have K := Kt q44
    refine td_iload_n 3 dX10_sheet_66 rfl ?_
    exact td_ireturn rfl dX10_sheet_67 K
  · have K := Kf q44
    refine td_aload_n 0 dX10_sheet_47 rfl ?_
    refine gf_X10_70 rfl kp_85 dX10_sheet_48 ?_
    refine td_bipush (v := 16) dX10_sheet_51 (by decide) ?_
    refine td_iload_n 1 dX10_sheet_53 rfl ?_
    refine td_imul dX10_sheet_54 ?_
    refine td_iload 4 dX10_sheet_55 rfl ?_
    refine td_iadd dX10_sheet_57 ?_
    refine td_iconst (v := 0) dX10_sheet_58 (by decide) ?_
    obtain ⟨e59, K⟩ := K
    refine td_iastc (j := (ix ((16 * x1) + x4))) kp_106 (by decide) e59 rfl dX10_sheet_59 ?_
    refine td_iinc 4 (v := x4 + 1) (lv2 := [(0, .ref 85), (1, .int x1), (2, .int x2), (3, .int x3), (4, .int (x4 + 1))]) dX10_sheet_60 rfl (congrArg (x4 + ·) (by decide)) (by decide) rfl ?_
    refine td_goto (tgt := 40) dX10_sheet_63 (by decide) ?_
    exact K
theorem M_sheet {G : td_G} {d : Nat} {h : td_H} {s : gS} (x1 x2 x3 : Int32) (O : OK s) (I : MI s h) : (okSh x1 x2 x3 → 0 ≤ x3 → td_C G (d + 2) mX10_sheet [.ref 85, .int x1, .int x2, .int x3] h (mPost x3 (s.1, s.2.1, s.2.2.1, shN s.2.2.2 (ix x1) x2 x3) h)) ∧ (okSh x1 x2 x3 → ¬ 0 ≤ x3 → td_C G (d + 2) mX10_sheet [.ref 85, .int x1, .int x2, .int x3] h (mPost (-14) s h)) ∧ (¬ okSh x1 x2 x3 → td_C G (d + 2) mX10_sheet [.ref 85, .int x1, .int x2, .int x3] h (mPost (-1) s h)) := by
  refine ⟨fun ok h0 => ?_, fun ok h0 => ?_, fun nk => ?_⟩
  · obtain ⟨o1, o2, o3⟩ := ok
    obtain ⟨k, hk, rfl⟩ := in_n (n := 4) (by decide) o1
    have ek : ix (nI k) = k := ixn (by omega)
    refine td_entry rfl (Nat.le_of_ble_eq_true rfl) rfl (gX10_sheet_0 ⟨fun y => absurd ⟨o1, o2⟩ (bz y), fun _ => ⟨fun _ => ⟨fun _ => ⟨vp_in_nI hk (by decide), ?_⟩, fun y => absurd h0 y⟩, fun y => absurd o3 y⟩⟩)
    rw [ek]
    refine td_forH 16 (fun i => [(0, .ref 85), (1, .int (nI k)), (2, .int x2), (3, .int x3), (4, .int (nI i))]) (fun i h2 => (∀ a b, ¬ (a = 106 ∧ 16 * k ≤ b ∧ b < 16 * k + 16) → h2 a b = (hu (hu h 104 k x2) 105 k x3) a b) ∧ ∀ j, j < i → h2 106 (16 * k + j) = 0) rfl ⟨fun _ _ _ => rfl, fun j hj => absurd hj (by omega)⟩ (fun i hi h2 hI ih => ?_) (fun h2 hI => ?_)
    · obtain ⟨hF, hV⟩ := hI
      refine gX10_sheet_40 ?_
      rw [ix_16 hk hi, ixn (i := 16 * k + i) (by omega)]
      refine ⟨fun y => absurd (le_of (a := 16) y) (by omega), fun _ => ⟨vp_in_nI (by omega) (by decide), ?_⟩⟩
      refine td_to (ih _ ⟨fun a b z => ?_, fun j hj => ?_⟩) (by rw [nI_1]) rfl rfl
      · rw [hu_app, if_neg (by omega)]; exact hF a b z
      · rw [hu_app]
        by_cases e : j = i
        · rw [if_pos ⟨rfl, by omega⟩]
        · rw [if_neg (by omega)]; exact hV j (by omega)
    · obtain ⟨hF, hV⟩ := hI
      refine gX10_sheet_40 ⟨fun _ => ⟨rfl, I.sh _ (fun j hj => ?_) (fun a b z => ?_)⟩, fun y => absurd (nle_of (a := 16) (b := 16) y) (by omega)⟩
      · obtain ⟨b1, b2, b3⟩ := I.2.2.2 j hj
        unfold shN
        by_cases e : j = k
        · subst e
          refine ⟨?_, ?_, fun i hi => ?_⟩
          · rw [hF _ _ (by omega), hu_app, if_neg (by omega), hu_app, if_pos ⟨rfl, rfl⟩, if_pos rfl, if_pos rfl]
          · rw [hF _ _ (by omega), hu_app, if_pos ⟨rfl, rfl⟩, if_pos rfl, if_neg (by decide), if_pos rfl]
          · rw [hV i hi, if_pos rfl, if_neg (by omega), if_neg (by omega)]
        · refine ⟨?_, ?_, fun i hi => ?_⟩
          · rw [hF _ _ (by omega), hu_app, if_neg (by omega), hu_app, if_neg (by omega), if_neg e]; exact b1
          · rw [hF _ _ (by omega), hu_app, if_neg (by omega), hu_app, if_neg (by omega), if_neg e]; exact b2
          · rw [hF _ _ (by omega), hu_app, if_neg (by omega), hu_app, if_neg (by omega), if_neg e]; exact b3 i hi
      · rw [hF _ _ (by omega), hu_app, if_neg (by omega), hu_app, if_neg (by omega)]
  · obtain ⟨o1, o2, o3⟩ := ok
    exact td_entry rfl (Nat.le_of_ble_eq_true rfl) rfl (gX10_sheet_0 ⟨fun y => absurd ⟨o1, o2⟩ (bz y), fun _ => ⟨fun _ => ⟨fun y => absurd y h0, fun _ => ⟨rfl, I, FD.rf h⟩⟩, fun y => absurd o3 y⟩⟩)
  · exact td_entry rfl (Nat.le_of_ble_eq_true rfl) rfl (gX10_sheet_0 ⟨fun _ => ⟨rfl, I, FD.rf h⟩, fun y => ⟨fun w => absurd ⟨(bnz y).1, (bnz y).2, w⟩ nk, fun _ => ⟨rfl, I, FD.rf h⟩⟩⟩)
set_option maxRecDepth 20000 in
set_option maxHeartbeats 4000000 in
theorem gX10_drop_0 {G : td_G} {d : Nat} {Post : td_P} {x1 : Int32} {h : td_H} (K : (¬ (b2i (0 ≤ x1.toInt64 ∧ x1.toInt64 ≤ 3)) = 0 → (vp_in x1 4 ∧ ((0 ≤ (h 104 (ix x1)) → (Post (some (.int ((hu h 104 (ix x1) (-1)) 105 (ix x1)))) (hu h 104 (ix x1) (-1)))) ∧ (¬ 0 ≤ (h 104 (ix x1)) → (Post (some (.int (-11))) h))))) ∧ ((b2i (0 ≤ x1.toInt64 ∧ x1.toInt64 ≤ 3)) = 0 → (Post (some (.int (-1))) h))) : td_J G (d + 1) mX10_drop Post 0 [(0, .ref 85), (1, .int x1)] [] h := by
  refine td_iload_n 1 dX10_drop_0 rfl ?_
  refine td_i2l dX10_drop_1 ?_
  refine td_lconst (v := 0) dX10_drop_2 (by decide) ?_
  refine td_ldc2 (v := 3) kw_X10_226 dX10_drop_3 ?_
  refine cl_X10_75 rfl dX10_drop_6 (Nat.le_of_ble_eq_true rfl) (c_in x1.toInt64 0 3) (eR_k ?_)
  refine td_eqs (st2 := [.int (b2i (0 ≤ x1.toInt64 ∧ x1.toInt64 ≤ 3))]) rfl ?_
  obtain ⟨Kt, Kf⟩ := K
  refine td_if_ne (tgt := 14) dX10_drop_9 (by decide) (fun q9 => ?_) (fun q9 => ?_)
  · have K := Kt q9
    refine td_aload_n 0 dX10_drop_14 rfl ?_
    refine gf_X10_64 rfl kp_85 dX10_drop_15 ?_
    refine td_iload_n 1 dX10_drop_18 rfl ?_
    obtain ⟨e19, K⟩ := K
    refine td_ialdc (j := (ix x1)) kp_104 (by decide) e19 rfl dX10_drop_19 ?_
    obtain ⟨Kt, Kf⟩ := K
    refine td_if_ge (tgt := 26) dX10_drop_20 (by decide) (fun q20 => ?_) (fun q20 => ?_)
    · have K := Kt q20
      refine td_aload_n 0 dX10_drop_26 rfl ?_
      refine gf_X10_64 rfl kp_85 dX10_drop_27 ?_
      refine td_iload_n 1 dX10_drop_30 rfl ?_
      refine td_iconst (v := (-1)) dX10_drop_31 (by decide) ?_
      refine td_iastc (j := (ix x1)) kp_104 (by decide) e19 rfl dX10_drop_32 ?_
      refine td_aload_n 0 dX10_drop_33 rfl ?_
      refine gf_X10_67 rfl kp_85 dX10_drop_34 ?_
      refine td_iload_n 1 dX10_drop_37 rfl ?_
      refine td_ialdc (j := (ix x1)) kp_105 (by decide) e19 rfl dX10_drop_38 ?_
      exact td_ireturn rfl dX10_drop_39 K
    · have K := Kf q20
      refine td_bipush (v := (-11)) dX10_drop_23 (by decide) ?_
      exact td_ireturn rfl dX10_drop_25 K
  · have K := Kf q9
    refine td_iconst (v := (-1)) dX10_drop_12 (by decide) ?_
    exact td_ireturn rfl dX10_drop_13 K
theorem ln_nn {x : Int32} (h : x = -1 ∨ vp_in x 3) : 0 ≤ x ↔ ¬ x = -1 := by
  rcases h with h | h
  · subst h; decide
  · obtain ⟨k, hk, rfl⟩ := vp_in_of h (by decide)
    exact (by decide +kernel : ∀ k, k < 3 → ((0 : Int32) ≤ nI k ↔ ¬ nI k = -1)) k hk
theorem M_drop {G : td_G} {d : Nat} {h : td_H} {s : gS} (x1 : Int32) (O : OK s) (I : MI s h) : ((0 ≤ x1 ∧ x1 < 4) → ¬ s.2.2.2 (ix x1) 0 = -1 → td_C G (d + 1) mX10_drop [.ref 85, .int x1] h (mPost (s.2.2.2 (ix x1) 1) (s.1, s.2.1, s.2.2.1, shX s.2.2.2 (ix x1)) h)) ∧ ((0 ≤ x1 ∧ x1 < 4) → s.2.2.2 (ix x1) 0 = -1 → td_C G (d + 1) mX10_drop [.ref 85, .int x1] h (mPost (-11) s h)) ∧ (¬ (0 ≤ x1 ∧ x1 < 4) → td_C G (d + 1) mX10_drop [.ref 85, .int x1] h (mPost (-1) s h)) := by
  refine ⟨fun ok h0 => ?_, fun ok h0 => ?_, fun nk => ?_⟩
  · obtain ⟨k, hk, rfl⟩ := in_n (n := 4) (by decide) ok
    have ek : ix (nI k) = k := ixn (by omega)
    obtain ⟨q1, q2, q3⟩ := I.2.2.2 k hk
    rw [ek] at h0 ⊢
    refine td_entry rfl (Nat.le_of_ble_eq_true rfl) rfl (gX10_drop_0 ⟨fun _ => ⟨vp_in_nI hk (by decide), ?_⟩, fun y => absurd (iq 3 ok) (bz y)⟩)
    rw [ek, q1]
    refine ⟨fun _ => ⟨?_, I.sh _ (fun j hj => ?_) (fun a b z => by rw [hu_app, if_neg (by omega)])⟩, fun y => absurd ((ln_nn (O.2.2.2 k hk).1).mpr h0) y⟩
    · rw [hu_app, if_neg (by omega), q2]
    · obtain ⟨b1, b2, b3⟩ := I.2.2.2 j hj
      unfold shX
      by_cases e : j = k
      · subst e
        refine ⟨?_, ?_, fun i hi => ?_⟩
        · rw [hu_app, if_pos ⟨rfl, rfl⟩, if_pos ⟨rfl, rfl⟩]
        · rw [hu_app, if_neg (by omega), if_neg (by omega)]; exact b2
        · rw [hu_app, if_neg (by omega), if_neg (by omega)]; exact b3 i hi
      · refine ⟨?_, ?_, fun i hi => ?_⟩
        · rw [hu_app, if_neg (by omega), if_neg (fun z => e z.1)]; exact b1
        · rw [hu_app, if_neg (by omega), if_neg (fun z => e z.1)]; exact b2
        · rw [hu_app, if_neg (by omega), if_neg (fun z => e z.1)]; exact b3 i hi
  · obtain ⟨k, hk, rfl⟩ := in_n (n := 4) (by decide) ok
    have ek : ix (nI k) = k := ixn (by omega)
    obtain ⟨q1, q2, q3⟩ := I.2.2.2 k hk
    rw [ek] at h0
    refine td_entry rfl (Nat.le_of_ble_eq_true rfl) rfl (gX10_drop_0 ⟨fun _ => ⟨vp_in_nI hk (by decide), ?_⟩, fun y => absurd (iq 3 ok) (bz y)⟩)
    rw [ek, q1, h0]
    exact ⟨fun y => absurd y (by decide), fun _ => ⟨rfl, I, FD.rf h⟩⟩
  · exact td_entry rfl (Nat.le_of_ble_eq_true rfl) rfl (gX10_drop_0 ⟨fun y => absurd (iqn 3 (bnz y)) nk, fun _ => ⟨rfl, I, FD.rf h⟩⟩)
theorem MI.put {s : gS} {h h1 : td_H} (x : MI s h) {k f n : Nat} {v : Nat → Int32} (hk : k < 4) (e : ∀ a b, ¬ (a = 106 ∧ 16 * k ≤ b ∧ b < 16 * k + 16) → h1 a b = h a b) (ei : ∀ i, i < 16 → h1 106 (16 * k + i) = shF s.2.2.2 k f n v k (2 + i)) : MI (s.1, s.2.1, s.2.2.1, shF s.2.2.2 k f n v) h1 ∧ FD h h1 := by
  refine x.sh _ (fun j hj => ?_) (fun a b z => e a b (by omega))
  obtain ⟨b1, b2, b3⟩ := x.2.2.2 j hj
  refine ⟨?_, ?_, fun i hi => ?_⟩
  · rw [shF_0 _ _ _ _ _ _ _ (by decide), e _ _ (by omega)]; exact b1
  · rw [shF_0 _ _ _ _ _ _ _ (by decide), e _ _ (by omega)]; exact b2
  · by_cases z : j = k
    · subst z; exact ei i hi
    · rw [shF_n _ _ _ _ _ _ _ z, e _ _ (by omega)]; exact b3 i hi
set_option maxRecDepth 20000 in
set_option maxHeartbeats 4000000 in
theorem gX10_item_0 {G : td_G} {d : Nat} {Post : td_P} {x1 x2 x3 x4 : Int32} {h : td_H} (K : (¬ (b2i ((0 ≤ x1 ∧ x1 < 4) ∧ (0 ≤ x2 ∧ x2 < 3))) = 0 → (vp_in x1 4 ∧ (h 104 (ix x1) = -1 ∨ vp_in (h 104 (ix x1)) 3) ∧ (0 ≤ x2 ∧ x2 < 3) ∧ ((0 ≤ (rfI (h 104 (ix x1)) (h 105 (ix x1)) x2 x3 1) → (vp_in ((16 * x1) + x3) 64 ∧ (Post (some (.int 1)) (hu h 106 (ix ((16 * x1) + x3)) (cutI x2 x4))))) ∧ (¬ 0 ≤ (rfI (h 104 (ix x1)) (h 105 (ix x1)) x2 x3 1) → (Post (some (.int (rfI (h 104 (ix x1)) (h 105 (ix x1)) x2 x3 1))) h))))) ∧ ((b2i ((0 ≤ x1 ∧ x1 < 4) ∧ (0 ≤ x2 ∧ x2 < 3))) = 0 → (Post (some (.int (-1))) h))) : td_J G (d + 2) mX10_item Post 0 [(0, .ref 85), (1, .int x1), (2, .int x2), (3, .int x3), (4, .int x4)] [] h := by
  refine td_iload_n 1 dX10_item_0 rfl ?_
  refine td_iload_n 2 dX10_item_1 rfl ?_
  refine cl_X10_250 rfl dX10_item_2 (Nat.le_of_ble_eq_true rfl) (c_isSheet x1 x2) (eR_k ?_)
  refine td_eqs (st2 := [.int (b2i ((0 ≤ x1 ∧ x1 < 4) ∧ (0 ≤ x2 ∧ x2 < 3)))]) rfl ?_
  obtain ⟨Kt, Kf⟩ := K
  refine td_if_ne (tgt := 10) dX10_item_5 (by decide) (fun q5 => ?_) (fun q5 => ?_)
  · have K := Kt q5
    refine td_aload_n 0 dX10_item_10 rfl ?_
    refine td_iload_n 1 dX10_item_11 rfl ?_
    refine td_iload_n 2 dX10_item_12 rfl ?_
    refine td_iload_n 3 dX10_item_13 rfl ?_
    refine td_iconst (v := 1) dX10_item_14 (by decide) ?_
    obtain ⟨e15_0, K⟩ := K
    obtain ⟨e15_1, K⟩ := K
    obtain ⟨e15_2, K⟩ := K
    refine cl_X10_255 rfl kp_85 dX10_item_15 (Nat.le_of_ble_eq_true rfl) (c_lacks x1 x2 x3 1 e15_0 e15_1 e15_2) (eR_k ?_)
    refine td_eqs (st2 := [.int (rfI (h 104 (ix x1)) (h 105 (ix x1)) x2 x3 1)]) rfl ?_
    refine td_istore (lv2 := [(0, .ref 85), (1, .int x1), (2, .int x2), (3, .int x3), (4, .int x4), (5, .int (rfI (h 104 (ix x1)) (h 105 (ix x1)) x2 x3 1))]) dX10_item_18 (by decide) rfl ?_
    refine td_iload 5 dX10_item_20 rfl ?_
    obtain ⟨Kt, Kf⟩ := K
    refine td_if_ge (tgt := 28) dX10_item_22 (by decide) (fun q22 => ?_) (fun q22 => ?_)
    · have K := Kt q22
      refine td_aload_n 0 dX10_item_28 rfl ?_
      refine gf_X10_70 rfl kp_85 dX10_item_29 ?_
      refine td_bipush (v := 16) dX10_item_32 (by decide) ?_
      refine td_iload_n 1 dX10_item_34 rfl ?_
      refine td_imul dX10_item_35 ?_
      refine td_iload_n 3 dX10_item_36 rfl ?_
      refine td_iadd dX10_item_37 ?_
      refine td_iload_n 2 dX10_item_38 rfl ?_
      refine td_iload 4 dX10_item_39 rfl ?_
      refine cl_X10_266 rfl dX10_item_41 (Nat.le_of_ble_eq_true rfl) (c_cutTo x2 x4) (eR_k ?_)
      refine td_eqs (st2 := [.int (cutI x2 x4), .int ((16 * x1) + x3), .ref 106]) rfl ?_
      obtain ⟨e44, K⟩ := K
      refine td_iastc (j := (ix ((16 * x1) + x3))) kp_106 (by decide) e44 rfl dX10_item_44 ?_
      refine td_iconst (v := 1) dX10_item_45 (by decide) ?_
      exact td_ireturn rfl dX10_item_46 K
    · have K := Kf q22
      refine td_iload 5 dX10_item_25 rfl ?_
      exact td_ireturn rfl dX10_item_27 K
  · have K := Kf q5
    refine td_iconst (v := (-1)) dX10_item_8 (by decide) ?_
    exact td_ireturn rfl dX10_item_9 K
theorem M_item {G : td_G} {d : Nat} {h : td_H} {s : gS} (x1 x2 x3 x4 : Int32) (O : OK s) (I : MI s h) : (okIt x1 x2 → rfS s.2.2.2 x1 x2 x3 1 = 0 → td_C G (d + 2) mX10_item [.ref 85, .int x1, .int x2, .int x3, .int x4] h (mPost 1 (s.1, s.2.1, s.2.2.1, shF s.2.2.2 (ix x1) (ix x3) 1 (fun _ => cutI (s.2.2.2 (ix x1) 0) x4)) h)) ∧ (okIt x1 x2 → ¬ rfS s.2.2.2 x1 x2 x3 1 = 0 → td_C G (d + 2) mX10_item [.ref 85, .int x1, .int x2, .int x3, .int x4] h (mPost (rfS s.2.2.2 x1 x2 x3 1) s h)) ∧ (¬ okIt x1 x2 → td_C G (d + 2) mX10_item [.ref 85, .int x1, .int x2, .int x3, .int x4] h (mPost (-1) s h)) := by
  refine ⟨fun ok h0 => ?_, fun ok h0 => ?_, fun nk => ?_⟩
  · obtain ⟨o1, o2⟩ := ok
    obtain ⟨k, hk, rfl⟩ := in_n (n := 4) (by decide) o1
    have ek : ix (nI k) = k := ixn (by omega)
    obtain ⟨q1, q2, q3⟩ := I.2.2.2 k hk
    obtain ⟨w1, N, hN, eN⟩ := O.2.2.2 k hk
    unfold rfS at h0
    rw [ek] at h0 ⊢
    obtain ⟨f, rfl, hf⟩ := rf_in (n := 1) hN (by decide) (by rw [← eN]; exact h0)
    have el := (rfI_0.mp h0).2.1
    refine td_entry rfl (Nat.le_of_ble_eq_true rfl) rfl (gX10_item_0 ⟨fun _ => ⟨vp_in_nI hk (by decide), ?_⟩, fun y => absurd ⟨o1, o2⟩ (bz y)⟩)
    rw [ek, q1, q2, ix_16 hk (show f < 16 by omega), ixn (i := 16 * k + f) (by omega), ixn (i := f) (by omega), el]
    rw [el] at h0 w1
    refine ⟨w1, o2, fun _ => ⟨vp_in_nI (by omega) (by decide), rfl, ?_⟩, fun y => absurd (rfI_nn.mpr h0) y⟩
    refine I.put hk (fun a b z => by rw [hu_app, if_neg (by omega)]) (fun i hi => ?_)
    rw [shF_s, hu_app]
    by_cases e : i = f
    · rw [if_pos ⟨rfl, by omega⟩, if_pos (by omega)]
    · rw [if_neg (by omega), if_neg (by omega), q3 i hi]
      unfold shF
      rw [if_neg (by omega)]
  · obtain ⟨o1, o2⟩ := ok
    obtain ⟨k, hk, rfl⟩ := in_n (n := 4) (by decide) o1
    have ek : ix (nI k) = k := ixn (by omega)
    obtain ⟨q1, q2, q3⟩ := I.2.2.2 k hk
    obtain ⟨w1, N, hN, eN⟩ := O.2.2.2 k hk
    unfold rfS at h0 ⊢
    rw [ek] at h0 ⊢
    refine td_entry rfl (Nat.le_of_ble_eq_true rfl) rfl (gX10_item_0 ⟨fun _ => ⟨vp_in_nI hk (by decide), ?_⟩, fun y => absurd ⟨o1, o2⟩ (bz y)⟩)
    rw [ek, q1, q2]
    exact ⟨w1, o2, fun y => absurd (rfI_nn.mp y) h0, fun _ => ⟨rfl, I, FD.rf h⟩⟩
  · exact td_entry rfl (Nat.le_of_ble_eq_true rfl) rfl (gX10_item_0 ⟨fun y => absurd (bnz y) nk, fun _ => ⟨rfl, I, FD.rf h⟩⟩)
set_option maxRecDepth 20000 in
set_option maxHeartbeats 4000000 in
theorem gX10_film_0 {G : td_G} {d : Nat} {Post : td_P} {c : nH} {x1 x2 x3 : Int32} {h : td_H} (K : (¬ (b2i ((0 ≤ x1 ∧ x1 < 4) ∧ (0 ≤ x2 ∧ x2 < 3))) = 0 → (vp_in x1 4 ∧ (h 104 (ix x1) = -1 ∨ vp_in (h 104 (ix x1)) 3) ∧ (0 ≤ x2 ∧ x2 < 3) ∧ ((0 ≤ (rfI (h 104 (ix x1)) (h 105 (ix x1)) x2 x3 (h 86 9)) → (wfC c ∧ 12 ≤ c 5 0 ∧ mZ c 86 h ∧ (∀ h35 : td_H, (FrA h h35 ∧ rmC c h35) → (rmC c h35 ∧ (∀ h39 : td_H, (Fr h35 h39 ∧ rmS (sEndK c (sRun c 120) (c 1 0)) h39) → (td_J G (d + 7) mX10_film Post 45 [(0, .ref 85), (1, .int x1), (2, .int x2), (3, .int x3), (4, .int (rfI (h 104 (ix x1)) (h 105 (ix x1)) x2 x3 (h 86 9))), (5, .int 0)] [] h39)))))) ∧ (¬ 0 ≤ (rfI (h 104 (ix x1)) (h 105 (ix x1)) x2 x3 (h 86 9)) → (Post (some (.int (rfI (h 104 (ix x1)) (h 105 (ix x1)) x2 x3 (h 86 9)))) h))))) ∧ ((b2i ((0 ≤ x1 ∧ x1 < 4) ∧ (0 ≤ x2 ∧ x2 < 3))) = 0 → (Post (some (.int (-1))) h))) : td_J G (d + 7) mX10_film Post 0 [(0, .ref 85), (1, .int x1), (2, .int x2), (3, .int x3)] [] h := by
  refine td_iload_n 1 dX10_film_0 rfl ?_
  refine td_iload_n 2 dX10_film_1 rfl ?_
  refine cl_X10_250 rfl dX10_film_2 (Nat.le_of_ble_eq_true rfl) (c_isSheet x1 x2) (eR_k ?_)
  refine td_eqs (st2 := [.int (b2i ((0 ≤ x1 ∧ x1 < 4) ∧ (0 ≤ x2 ∧ x2 < 3)))]) rfl ?_
  obtain ⟨Kt, Kf⟩ := K
  refine td_if_ne (tgt := 10) dX10_film_5 (by decide) (fun q5 => ?_) (fun q5 => ?_)
  · have K := Kt q5
    refine td_aload_n 0 dX10_film_10 rfl ?_
    refine td_iload_n 1 dX10_film_11 rfl ?_
    refine td_iload_n 2 dX10_film_12 rfl ?_
    refine td_iload_n 3 dX10_film_13 rfl ?_
    refine td_aload_n 0 dX10_film_14 rfl ?_
    refine gf_X10_7 rfl kp_85 dX10_film_15 ?_
    refine td_bipush (v := 9) dX10_film_18 (by decide) ?_
    refine td_ialdc (j := 9) kp_86 (by decide) (by unfold vp_in; decide) (by decide) dX10_film_20 ?_
    obtain ⟨e21_0, K⟩ := K
    obtain ⟨e21_1, K⟩ := K
    obtain ⟨e21_2, K⟩ := K
    refine cl_X10_255 rfl kp_85 dX10_film_21 (Nat.le_of_ble_eq_true rfl) (c_lacks x1 x2 x3 (h 86 9) e21_0 e21_1 e21_2) (eR_k ?_)
    refine td_eqs (st2 := [.int (rfI (h 104 (ix x1)) (h 105 (ix x1)) x2 x3 (h 86 9))]) rfl ?_
    refine td_istore (lv2 := [(0, .ref 85), (1, .int x1), (2, .int x2), (3, .int x3), (4, .int (rfI (h 104 (ix x1)) (h 105 (ix x1)) x2 x3 (h 86 9)))]) dX10_film_24 (by decide) rfl ?_
    refine td_iload 4 dX10_film_26 rfl ?_
    obtain ⟨Kt, Kf⟩ := K
    refine td_if_ge (tgt := 34) dX10_film_28 (by decide) (fun q28 => ?_) (fun q28 => ?_)
    · have K := Kt q28
      refine td_aload_n 0 dX10_film_34 rfl ?_
      obtain ⟨e35_0, K⟩ := K
      obtain ⟨e35_1, K⟩ := K
      obtain ⟨e35_2, K⟩ := K
      refine cl_X10_104 rfl kp_85 dX10_film_35 (Nat.le_of_ble_eq_true rfl) (c_asTold c e35_0 e35_1 e35_2) ?_
      rintro _ h35 ⟨rfl, f35⟩
      have K := K h35 f35
      refine td_eqs (st2 := []) rfl ?_
      refine td_aload_n 0 dX10_film_38 rfl ?_
      obtain ⟨e39_0, K⟩ := K
      refine cl_X10_228 rfl kp_85 dX10_film_39 (Nat.le_of_ble_eq_true rfl) (c_run c e39_0) ?_
      rintro _ h39 ⟨rfl, f39⟩
      have K := K h39 f39
      refine td_eqs (st2 := []) rfl ?_
      refine td_iconst (v := 0) dX10_film_42 (by decide) ?_
      refine td_istore (lv2 := [(0, .ref 85), (1, .int x1), (2, .int x2), (3, .int x3), (4, .int (rfI (h 104 (ix x1)) (h 105 (ix x1)) x2 x3 (h 86 9))), (5, .int 0)]) dX10_film_43 (by decide) rfl ?_
      exact K
    · have K := Kf q28
      refine td_iload 4 dX10_film_31 rfl ?_
      exact td_ireturn rfl dX10_film_33 K
  · have K := Kf q5
    refine td_iconst (v := (-1)) dX10_film_8 (by decide) ?_
    exact td_ireturn rfl dX10_film_9 K
set_option maxRecDepth 20000 in
set_option maxHeartbeats 4000000 in
theorem gX10_film_45 {G : td_G} {d : Nat} {Post : td_P} {x1 x2 x3 x4 x5 : Int32} {h : td_H} (K : ((h 86 9) ≤ x5 → (Post (some (.int (h 86 9))) h)) ∧ (¬ (h 86 9) ≤ x5 → (vp_in x5 12 ∧ (vp_in (((16 * x1) + x3) + x5) 64 ∧ (td_J G (d + 7) mX10_film Post 45 [(0, .ref 85), (1, .int x1), (2, .int x2), (3, .int x3), (4, .int x4), (5, .int (x5 + 1))] [] (hu h 106 (ix (((16 * x1) + x3) + x5)) (cutI x2 (if 0 ≤ (h 94 (ix x5)) then (h 94 (ix x5)) else 120 : Int32)))))))) : td_J G (d + 7) mX10_film Post 45 [(0, .ref 85), (1, .int x1), (2, .int x2), (3, .int x3), (4, .int x4), (5, .int x5)] [] h := by
  refine td_iload 5 dX10_film_45 rfl ?_
  refine td_aload_n 0 dX10_film_47 rfl ?_
  refine gf_X10_7 rfl kp_85 dX10_film_48 ?_
  refine td_bipush (v := 9) dX10_film_51 (by decide) ?_
  refine td_ialdc (j := 9) kp_86 (by decide) (by unfold vp_in; decide) (by decide) dX10_film_53 ?_
  obtain ⟨Kt, Kf⟩ := K
  refine td_icmp_ge (tgt := 103) dX10_film_54 (by decide) (fun q54 => ?_) (fun q54 => ?_)
  · have K := Kt q54
    refine td_aload_n 0 dX10_film_103 rfl ?_
    refine gf_X10_7 rfl kp_85 dX10_film_104 ?_
    refine td_bipush (v := 9) dX10_film_107 (by decide) ?_
    refine td_ialdc (j := 9) kp_86 (by decide) (by unfold vp_in; decide) (by decide) dX10_film_109 ?_
    exact td_ireturn rfl dX10_film_110 K
  · have K := Kf q54
    refine td_aload_n 0 dX10_film_57 rfl ?_
    refine gf_X10_70 rfl kp_85 dX10_film_58 ?_
    refine td_bipush (v := 16) dX10_film_61 (by decide) ?_
    refine td_iload_n 1 dX10_film_63 rfl ?_
    refine td_imul dX10_film_64 ?_
    refine td_iload_n 3 dX10_film_65 rfl ?_
    refine td_iadd dX10_film_66 ?_
    refine td_iload 5 dX10_film_67 rfl ?_
    refine td_iadd dX10_film_69 ?_
    refine td_iload_n 2 dX10_film_70 rfl ?_
    refine td_aload_n 0 dX10_film_71 rfl ?_
    refine gf_X10_34 rfl kp_85 dX10_film_72 ?_
    refine td_iload 5 dX10_film_75 rfl ?_
    obtain ⟨e77, K⟩ := K
    refine td_ialdc (j := (ix x5)) kp_94 (by decide) e77 rfl dX10_film_77 ?_
    have KJ93 : td_J G (d + 7) mX10_film Post 93 [(0, .ref 85), (1, .int x1), (2, .int x2), (3, .int x3), (4, .int x4), (5, .int x5)] [.int (if 0 ≤ (h 94 (ix x5)) then (h 94 (ix x5)) else 120 : Int32), .int x2, .int (((16 * x1) + x3) + x5), .ref 106] h := by
      refine cl_X10_266 rfl dX10_film_93 (Nat.le_of_ble_eq_true rfl) (c_cutTo x2 (if 0 ≤ (h 94 (ix x5)) then (h 94 (ix x5)) else 120 : Int32)) (eR_k ?_)
      refine td_eqs (st2 := [.int (cutI x2 (if 0 ≤ (h 94 (ix x5)) then (h 94 (ix x5)) else 120 : Int32)), .int (((16 * x1) + x3) + x5), .ref 106]) rfl ?_
      obtain ⟨e96, K⟩ := K
      refine td_iastc (j := (ix (((16 * x1) + x3) + x5))) kp_106 (by decide) e96 rfl dX10_film_96 ?_
      refine td_iinc 5 (v := x5 + 1) (lv2 := [(0, .ref 85), (1, .int x1), (2, .int x2), (3, .int x3), (4, .int x4), (5, .int (x5 + 1))]) dX10_film_97 rfl (congrArg (x5 + ·) (by decide)) (by decide) rfl ?_
      refine td_goto (tgt := 45) dX10_film_100 (by decide) ?_
      exact K
    refine td_if_ge (tgt := 86) dX10_film_78 (by decide) (fun q78 => ?_) (fun q78 => ?_)
    · skip
      refine td_aload_n 0 dX10_film_86 rfl ?_
      refine gf_X10_34 rfl kp_85 dX10_film_87 ?_
      refine td_iload 5 dX10_film_90 rfl ?_
      refine td_ialdc (j := (ix x5)) kp_94 (by decide) e77 rfl dX10_film_92 ?_
      exact td_to KJ93 rfl (by rw [show (if 0 ≤ (h 94 (ix x5)) then (h 94 (ix x5)) else 120 : Int32) = _ from if_pos q78]) rfl
    · skip
      refine td_bipush (v := 120) dX10_film_81 (by decide) ?_
      refine td_goto (tgt := 93) dX10_film_83 (by decide) ?_
      exact td_to KJ93 rfl (by rw [show (if 0 ≤ (h 94 (ix x5)) then (h 94 (ix x5)) else 120 : Int32) = _ from if_neg q78]) rfl
theorem M_film {G : td_G} {d : Nat} {h : td_H} {s : gS} (x1 x2 x3 : Int32) (O : OK s) (I : MI s h) : (okIt x1 x2 → rfS s.2.2.2 x1 x2 x3 (nI (s.1 1 0)) = 0 → td_C G (d + 7) mX10_film [.ref 85, .int x1, .int x2, .int x3] h (mPost (nI (s.1 1 0)) (s.1, s.2.1, s.2.2.1, shF s.2.2.2 (ix x1) (ix x3) (s.1 1 0) (fun p => cutI (s.2.2.2 (ix x1) 0) (nI (sRun s.1 120 3 p)))) h)) ∧ (okIt x1 x2 → ¬ rfS s.2.2.2 x1 x2 x3 (nI (s.1 1 0)) = 0 → td_C G (d + 7) mX10_film [.ref 85, .int x1, .int x2, .int x3] h (mPost (rfS s.2.2.2 x1 x2 x3 (nI (s.1 1 0))) s h)) ∧ (¬ okIt x1 x2 → td_C G (d + 7) mX10_film [.ref 85, .int x1, .int x2, .int x3] h (mPost (-1) s h)) := by
  have e9 : h 86 9 = nI (s.1 1 0) := I.1.2.1
  have hn := O.1.n
  refine ⟨fun ok h0 => ?_, fun ok h0 => ?_, fun nk => ?_⟩
  · obtain ⟨o1, o2⟩ := ok
    obtain ⟨k, hk, rfl⟩ := in_n (n := 4) (by decide) o1
    have ek : ix (nI k) = k := ixn (by omega)
    obtain ⟨q1, q2, q3⟩ := I.2.2.2 k hk
    obtain ⟨w1, N, hN, eN⟩ := O.2.2.2 k hk
    unfold rfS at h0
    rw [ek] at h0 ⊢
    obtain ⟨f, rfl, hf⟩ := rf_in (n := s.1 1 0) hN (by omega) (by rw [← eN]; exact h0)
    have el := (rfI_0.mp h0).2.1
    rw [ixn (i := f) (by omega), el]
    refine td_entry rfl (Nat.le_of_ble_eq_true rfl) rfl (gX10_film_0 (c := s.1) ⟨fun _ => ⟨vp_in_nI hk (by decide), ?_⟩, fun y => absurd ⟨o1, o2⟩ (bz y)⟩)
    rw [e9, ek, q1, q2]
    refine ⟨w1, o2, fun _ => ⟨O.1, O.2.1, I.1, fun h2 hh => ⟨hh.2, fun h3 h33 => ?_⟩⟩, fun y => absurd (rfI_nn.mpr h0) y⟩
    obtain ⟨I3, F3⟩ := I.q (hh.1.N.tr h33.1.N)
    obtain ⟨r1, r2, r3⟩ := I3.2.2.2 k hk
    have g9 : h3 86 9 = nI (s.1 1 0) := I3.1.2.1
    have f94 : ∀ p, p < s.1 1 0 → h3 94 p = nn (sRun s.1 120 3 p) := fun p hp => by rw [← tau_o s.1 120 3 p (by decide)]; exact (h33.2.1 p (by omega)).2.2.2.1
    rw [h0]
    refine td_forH (s.1 1 0) (fun p => [(0, .ref 85), (1, .int (nI k)), (2, .int x2), (3, .int (nI f)), (4, .int 0), (5, .int (nI p))]) (fun p h1 => (∀ a b, ¬ (a = 106 ∧ 16 * k ≤ b ∧ b < 16 * k + 16) → h1 a b = h3 a b) ∧ ∀ i, i < 16 → h1 106 (16 * k + i) = shF s.2.2.2 k f p (fun p => cutI x2 (nI (sRun s.1 120 3 p))) k (2 + i)) rfl ⟨fun _ _ _ => rfl, fun i hi => ?_⟩ (fun p hp h1 hI ih => ?_) (fun h1 hI => ?_)
    · unfold shF
      rw [if_neg (by omega)]; exact r3 i hi
    · obtain ⟨hF, hV⟩ := hI
      refine gX10_film_45 ?_
      rw [hF 86 9 (by omega), g9, ix_16 hk (show f < 16 by omega), nI_add, ixn (i := p) (by omega), ixn (i := 16 * k + f + p) (by omega), hF 94 p (by omega), f94 p hp, nn_120 (end_le hn hp)]
      refine ⟨fun y => absurd (le_of y) (by omega), fun _ => ⟨vp_in_nI (by omega) (by decide), vp_in_nI (by omega) (by decide), ?_⟩⟩
      refine td_to (ih _ ⟨fun a b z => ?_, fun i hi => ?_⟩) (by rw [nI_1]) rfl rfl
      · rw [hu_app, if_neg (by omega)]; exact hF a b z
      · rw [shF_s, hu_app]
        by_cases e : i = f + p
        · rw [if_pos ⟨rfl, by omega⟩, if_pos e]
        · rw [if_neg (by omega), if_neg e]; exact hV i hi
    · obtain ⟨hF, hV⟩ := hI
      refine gX10_film_45 ?_
      rw [hF 86 9 (by omega), g9]
      refine ⟨fun _ => ?_, fun y => absurd (nle_of y) (by omega)⟩
      obtain ⟨I4, F4⟩ := I3.put hk hF hV
      exact ⟨rfl, I4, fun a b z => (F4 a b z).trans (F3 a b z)⟩
  · obtain ⟨o1, o2⟩ := ok
    obtain ⟨k, hk, rfl⟩ := in_n (n := 4) (by decide) o1
    have ek : ix (nI k) = k := ixn (by omega)
    obtain ⟨q1, q2, q3⟩ := I.2.2.2 k hk
    obtain ⟨w1, N, hN, eN⟩ := O.2.2.2 k hk
    unfold rfS at h0 ⊢
    rw [ek] at h0 ⊢
    refine td_entry rfl (Nat.le_of_ble_eq_true rfl) rfl (gX10_film_0 (c := s.1) ⟨fun _ => ⟨vp_in_nI hk (by decide), ?_⟩, fun y => absurd ⟨o1, o2⟩ (bz y)⟩)
    rw [e9, ek, q1, q2]
    exact ⟨w1, o2, fun y => absurd (rfI_nn.mp y) h0, fun _ => ⟨rfl, I, FD.rf h⟩⟩
  · exact td_entry rfl (Nat.le_of_ble_eq_true rfl) rfl (gX10_film_0 (c := s.1) ⟨fun y => absurd (bnz y) nk, fun _ => ⟨rfl, I, FD.rf h⟩⟩)
