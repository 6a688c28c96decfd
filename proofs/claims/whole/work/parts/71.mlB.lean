/-! ===== the model: set, share, open, person, told, delay, clear, count ===== -/
theorem MI.plan {s : gS} {h h1 : td_H} (x : MI s h) (g' : nH) (hZ : mZ g' 86 h1) (e : ∀ a b, a ≠ 86 → h1 a b = h a b) : MI (g', s.2) h1 ∧ FD h h1 := ⟨⟨hZ, x.2.1.fr (e _ _ (by omega)) (fun b => e _ _ (by omega)), x.2.2.1.fr (e _ _ (by omega)) (fun b => e _ _ (by omega)), x.2.2.2.fr (fun a b _ => e _ _ (by omega))⟩, fun a b z => e a b (by omega)⟩
set_option maxRecDepth 20000 in
set_option maxHeartbeats 4000000 in
theorem gX10_set_0 {G : td_G} {d : Nat} {Post : td_P} {x1 x2 : Int32} {h : td_H} (K : ((b2i (0 ≤ x1.toInt64 ∧ x1.toInt64 ≤ 8)) = 0 → (Post (some (.int (-1))) h)) ∧ (¬ (b2i (0 ≤ x1.toInt64 ∧ x1.toInt64 ≤ 8)) = 0 → ((¬ (b2i (((if x1 = 0 then 3 else if x1 = 3 then 0 else if x1 = 6 then 0 else if x1 = 8 then 0 else 1 : Int32).toInt64) ≤ x2.toInt64 ∧ x2.toInt64 ≤ ((if x1 = 0 then 4 else if x1 = 1 then 3 else if x1 = 5 then 3 else if x1 = 2 then 6 else if x1 = 3 then 20 else if x1 = 8 then 120 else 9 : Int32).toInt64))) = 0 → (vp_in x1 46 ∧ (Post (some (.int (h 86 (ix x1)))) (hu h 86 (ix x1) x2)))) ∧ ((b2i (((if x1 = 0 then 3 else if x1 = 3 then 0 else if x1 = 6 then 0 else if x1 = 8 then 0 else 1 : Int32).toInt64) ≤ x2.toInt64 ∧ x2.toInt64 ≤ ((if x1 = 0 then 4 else if x1 = 1 then 3 else if x1 = 5 then 3 else if x1 = 2 then 6 else if x1 = 3 then 20 else if x1 = 8 then 120 else 9 : Int32).toInt64))) = 0 → (Post (some (.int (-1))) h))))) : td_J G (d + 1) mX10_set Post 0 [(0, .ref 85), (1, .int x1), (2, .int x2)] [] h := by
  refine td_iload_n 1 dX10_set_0 rfl ?_
  refine td_i2l dX10_set_1 ?_
  refine td_lconst (v := 0) dX10_set_2 (by decide) ?_
  refine td_ldc2 (v := 8) kw_X10_73 dX10_set_3 ?_
  refine cl_X10_75 rfl dX10_set_6 (Nat.le_of_ble_eq_true rfl) (c_in x1.toInt64 0 8) (eR_k ?_)
  refine td_eqs (st2 := [.int (b2i (0 ≤ x1.toInt64 ∧ x1.toInt64 ≤ 8))]) rfl ?_
  obtain ⟨Kt, Kf⟩ := K
  refine td_if_eq (tgt := 30) dX10_set_9 (by decide) (fun q9 => ?_) (fun q9 => ?_)
  · have K := Kt q9
    refine td_iconst (v := (-1)) dX10_set_30 (by decide) ?_
    exact td_ireturn rfl dX10_set_31 K
  · have K := Kf q9
    refine td_iload_n 2 dX10_set_12 rfl ?_
    refine td_i2l dX10_set_13 ?_
    refine td_iload_n 1 dX10_set_14 rfl ?_
    refine cl_X10_79 rfl dX10_set_15 (Nat.le_of_ble_eq_true rfl) (c_leastOf x1) (eR_k ?_)
    refine td_eqs (st2 := [.int (if x1 = 0 then 3 else if x1 = 3 then 0 else if x1 = 6 then 0 else if x1 = 8 then 0 else 1 : Int32), .long x2.toInt64]) rfl ?_
    refine td_i2l dX10_set_18 ?_
    refine td_iload_n 1 dX10_set_19 rfl ?_
    refine cl_X10_83 rfl dX10_set_20 (Nat.le_of_ble_eq_true rfl) (c_mostOf x1) (eR_k ?_)
    refine td_eqs (st2 := [.int (if x1 = 0 then 4 else if x1 = 1 then 3 else if x1 = 5 then 3 else if x1 = 2 then 6 else if x1 = 3 then 20 else if x1 = 8 then 120 else 9 : Int32), .long ((if x1 = 0 then 3 else if x1 = 3 then 0 else if x1 = 6 then 0 else if x1 = 8 then 0 else 1 : Int32).toInt64), .long x2.toInt64]) rfl ?_
    refine td_i2l dX10_set_23 ?_
    refine cl_X10_75 rfl dX10_set_24 (Nat.le_of_ble_eq_true rfl) (c_in x2.toInt64 ((if x1 = 0 then 3 else if x1 = 3 then 0 else if x1 = 6 then 0 else if x1 = 8 then 0 else 1 : Int32).toInt64) ((if x1 = 0 then 4 else if x1 = 1 then 3 else if x1 = 5 then 3 else if x1 = 2 then 6 else if x1 = 3 then 20 else if x1 = 8 then 120 else 9 : Int32).toInt64)) (eR_k ?_)
    refine td_eqs (st2 := [.int (b2i (((if x1 = 0 then 3 else if x1 = 3 then 0 else if x1 = 6 then 0 else if x1 = 8 then 0 else 1 : Int32).toInt64) ≤ x2.toInt64 ∧ x2.toInt64 ≤ ((if x1 = 0 then 4 else if x1 = 1 then 3 else if x1 = 5 then 3 else if x1 = 2 then 6 else if x1 = 3 then 20 else if x1 = 8 then 120 else 9 : Int32).toInt64)))]) rfl ?_
    obtain ⟨Kt, Kf⟩ := K
    refine td_if_ne (tgt := 32) dX10_set_27 (by decide) (fun q27 => ?_) (fun q27 => ?_)
    · have K := Kt q27
      refine td_aload_n 0 dX10_set_32 rfl ?_
      refine gf_X10_7 rfl kp_85 dX10_set_33 ?_
      refine td_iload_n 1 dX10_set_36 rfl ?_
      obtain ⟨e37, K⟩ := K
      refine td_ialdc (j := (ix x1)) kp_86 (by decide) e37 rfl dX10_set_37 ?_
      refine td_istore_n (lv2 := [(0, .ref 85), (1, .int x1), (2, .int x2), (3, .int (h 86 (ix x1)))]) dX10_set_38 (by decide) rfl ?_
      refine td_aload_n 0 dX10_set_39 rfl ?_
      refine gf_X10_7 rfl kp_85 dX10_set_40 ?_
      refine td_iload_n 1 dX10_set_43 rfl ?_
      refine td_iload_n 2 dX10_set_44 rfl ?_
      refine td_iastc (j := (ix x1)) kp_86 (by decide) e37 rfl dX10_set_45 ?_
      refine td_iload_n 3 dX10_set_46 rfl ?_
      exact td_ireturn rfl dX10_set_47 K
    · have K := Kf q27
      refine td_iconst (v := (-1)) dX10_set_30 (by decide) ?_
      exact td_ireturn rfl dX10_set_31 K
theorem lm_9 {k : Nat} (h : k < 9) : (if nI k = 0 then 3 else if nI k = 3 then 0 else if nI k = 6 then 0 else if nI k = 8 then 0 else 1 : Int32) = (td_st 0).getD k 0 ∧ (if nI k = 0 then 4 else if nI k = 1 then 3 else if nI k = 5 then 3 else if nI k = 2 then 6 else if nI k = 3 then 20 else if nI k = 8 then 120 else 9 : Int32) = (td_st 1).getD k 0 := (by decide +kernel : ∀ k, k < 9 → (if nI k = 0 then 3 else if nI k = 3 then 0 else if nI k = 6 then 0 else if nI k = 8 then 0 else 1 : Int32) = (td_st 0).getD k 0 ∧ (if nI k = 0 then 4 else if nI k = 1 then 3 else if nI k = 5 then 3 else if nI k = 2 then 6 else if nI k = 3 then 20 else if nI k = 8 then 120 else 9 : Int32) = (td_st 1).getD k 0) k h
theorem mZ.set {g : nH} {h : td_H} (x : mZ g 86 h) {k m : Nat} (hk : k < 9) : mZ (nu g 0 k m) 86 (hu h 86 k (nI m)) := by
  refine ⟨fun i hi => ?_, ?_, fun p hp => ?_⟩
  · rw [hu_app, nu_app]
    by_cases z : i = k
    · rw [if_pos ⟨rfl, z⟩, if_pos ⟨rfl, z⟩]
    · rw [if_neg (fun w => z w.2), if_neg (fun w => z w.2)]; exact x.1 i hi
  · rw [hu_app, if_neg (by omega), nu_app, if_neg (by omega)]; exact x.2.1
  · rw [nu_app, if_neg (by omega)] at hp
    simp only [nu_app, hu_app]
    rw [if_neg (by omega), if_neg (by omega), if_neg (by omega), if_neg (by omega), if_neg (by omega), if_neg (by omega)]
    exact x.2.2 p hp
theorem M_set {G : td_G} {d : Nat} {h : td_H} {s : gS} (x1 x2 : Int32) (O : OK s) (I : MI s h) : (okSet x1 x2 → td_C G (d + 1) mX10_set [.ref 85, .int x1, .int x2] h (mPost (nI (s.1 0 (ix x1))) (nu s.1 0 (ix x1) (ix x2), s.2) h)) ∧ (¬ okSet x1 x2 → td_C G (d + 1) mX10_set [.ref 85, .int x1, .int x2] h (mPost (-1) s h)) := by
  refine ⟨fun ok => ?_, fun nk => ?_⟩
  · obtain ⟨k, hk, rfl⟩ := in_n (n := 9) (by decide) ok.1
    have ek : ix (nI k) = k := ixn (by omega)
    obtain ⟨o1, o2, o3⟩ := ok
    rw [ek] at o2 o3 ⊢
    have hv0 : 0 ≤ x2 := by have := st_pos hk; rw [fa_le] at *; omega
    obtain ⟨ev, hv⟩ := nn_of hv0
    obtain ⟨l1, l2⟩ := lm_9 hk
    refine td_entry rfl (Nat.le_of_ble_eq_true rfl) rfl (gX10_set_0 ⟨fun y => absurd (iq 8 o1) (bz y), fun _ => ⟨fun _ => ⟨vp_in_nI (by omega) (by decide), ?_⟩, fun y => ?_⟩⟩)
    · rw [ek]
      obtain ⟨I2, F2⟩ := I.plan (h1 := hu h 86 k x2) (nu s.1 0 k (ix x2)) (by have z := I.1.set (m := ix x2) hk; rw [← ev] at z; exact z) (fun a b z => by rw [hu_app, if_neg (fun w => z w.1)])
      exact ⟨by rw [I.1.1 k hk], I2, F2⟩
    · rw [l1, l2] at y
      exact absurd ⟨(fa_wide_le _ _).mpr o2, (fa_wide_le _ _).mpr o3⟩ (bz y)
  · refine td_entry rfl (Nat.le_of_ble_eq_true rfl) rfl (gX10_set_0 ⟨fun _ => ⟨rfl, I, FD.rf h⟩, fun y => ⟨fun z => ?_, fun _ => ⟨rfl, I, FD.rf h⟩⟩⟩)
    have o1 : 0 ≤ x1 ∧ x1 < 9 := iqn 8 (bnz y)
    have zz := bnz z
    obtain ⟨k, hk, rfl⟩ := in_n (n := 9) (by decide) o1
    obtain ⟨l1, l2⟩ := lm_9 hk
    rw [l1, l2, fa_wide_le, fa_wide_le] at zz
    exact absurd ⟨o1, by rw [ixn (i := k) (by omega)]; exact zz⟩ nk
set_option maxRecDepth 20000 in
set_option maxHeartbeats 4000000 in
theorem gX10_share_0 {G : td_G} {d : Nat} {Post : td_P} {c : nH} {x1 x2 x3 : Int32} {h : td_H} (K : ((b2i (0 ≤ (x1).toInt64 ∧ (x1).toInt64 ≤ (((h 86 0) - 1).toInt64))) = 0 → (Post (some (.int (-1))) h)) ∧ (¬ (b2i (0 ≤ (x1).toInt64 ∧ (x1).toInt64 ≤ (((h 86 0) - 1).toInt64))) = 0 → (((b2i (0 ≤ x2.toInt64 ∧ x2.toInt64 ≤ 1)) = 0 → (Post (some (.int (-1))) h)) ∧ (¬ (b2i (0 ≤ x2.toInt64 ∧ x2.toInt64 ≤ 1)) = 0 → ((¬ (b2i (0 ≤ x3.toInt64 ∧ x3.toInt64 ≤ 11)) = 0 → (wfC c ∧ 12 ≤ c 5 0 ∧ mZ c 86 h ∧ (∀ h33 : td_H, (FrA h h33 ∧ rmC c h33) → (rmC c h33 ∧ vp_in x1 4 ∧ vp_in x2 2 ∧ vp_in x3 12 ∧ (Post (some (.int (nI (share (c 0 0) (ix x1) (ix x2) (ix x3))))) h33))))) ∧ ((b2i (0 ≤ x3.toInt64 ∧ x3.toInt64 ≤ 11)) = 0 → (Post (some (.int (-1))) h))))))) : td_J G (d + 2) mX10_share Post 0 [(0, .ref 85), (1, .int x1), (2, .int x2), (3, .int x3)] [] h := by
  refine td_aload_n 0 dX10_share_0 rfl ?_
  refine td_iload_n 1 dX10_share_1 rfl ?_
  refine cl_X10_98 rfl kp_85 dX10_share_2 (Nat.le_of_ble_eq_true rfl) (c_isPart x1) (eR_k ?_)
  refine td_eqs (st2 := [.int (b2i (0 ≤ (x1).toInt64 ∧ (x1).toInt64 ≤ (((h 86 0) - 1).toInt64)))]) rfl ?_
  obtain ⟨Kt, Kf⟩ := K
  refine td_if_eq (tgt := 30) dX10_share_5 (by decide) (fun q5 => ?_) (fun q5 => ?_)
  · have K := Kt q5
    refine td_iconst (v := (-1)) dX10_share_30 (by decide) ?_
    exact td_ireturn rfl dX10_share_31 K
  · have K := Kf q5
    refine td_iload_n 2 dX10_share_8 rfl ?_
    refine td_i2l dX10_share_9 ?_
    refine td_lconst (v := 0) dX10_share_10 (by decide) ?_
    refine td_lconst (v := 1) dX10_share_11 (by decide) ?_
    refine cl_X10_75 rfl dX10_share_12 (Nat.le_of_ble_eq_true rfl) (c_in x2.toInt64 0 1) (eR_k ?_)
    refine td_eqs (st2 := [.int (b2i (0 ≤ x2.toInt64 ∧ x2.toInt64 ≤ 1))]) rfl ?_
    obtain ⟨Kt, Kf⟩ := K
    refine td_if_eq (tgt := 30) dX10_share_15 (by decide) (fun q15 => ?_) (fun q15 => ?_)
    · have K := Kt q15
      refine td_iconst (v := (-1)) dX10_share_30 (by decide) ?_
      exact td_ireturn rfl dX10_share_31 K
    · have K := Kf q15
      refine td_iload_n 3 dX10_share_18 rfl ?_
      refine td_i2l dX10_share_19 ?_
      refine td_lconst (v := 0) dX10_share_20 (by decide) ?_
      refine td_ldc2 (v := 11) kw_X10_102 dX10_share_21 ?_
      refine cl_X10_75 rfl dX10_share_24 (Nat.le_of_ble_eq_true rfl) (c_in x3.toInt64 0 11) (eR_k ?_)
      refine td_eqs (st2 := [.int (b2i (0 ≤ x3.toInt64 ∧ x3.toInt64 ≤ 11))]) rfl ?_
      obtain ⟨Kt, Kf⟩ := K
      refine td_if_ne (tgt := 32) dX10_share_27 (by decide) (fun q27 => ?_) (fun q27 => ?_)
      · have K := Kt q27
        refine td_aload_n 0 dX10_share_32 rfl ?_
        obtain ⟨e33_0, K⟩ := K
        obtain ⟨e33_1, K⟩ := K
        obtain ⟨e33_2, K⟩ := K
        refine cl_X10_104 rfl kp_85 dX10_share_33 (Nat.le_of_ble_eq_true rfl) (c_asTold c e33_0 e33_1 e33_2) ?_
        rintro _ h33 ⟨rfl, f33⟩
        have K := K h33 f33
        refine td_eqs (st2 := []) rfl ?_
        refine td_aload_n 0 dX10_share_36 rfl ?_
        refine td_iload_n 1 dX10_share_37 rfl ?_
        refine td_iload_n 2 dX10_share_38 rfl ?_
        refine td_iload_n 3 dX10_share_39 rfl ?_
        obtain ⟨e40_0, K⟩ := K
        obtain ⟨e40_1, K⟩ := K
        obtain ⟨e40_2, K⟩ := K
        obtain ⟨e40_3, K⟩ := K
        refine cl_X10_86 rfl kp_85 dX10_share_40 (Nat.le_of_ble_eq_true rfl) (c_shareOf c x1 x2 x3 e40_0 e40_1 e40_2 e40_3) (eR_k ?_)
        refine td_eqs (st2 := [.int (nI (share (c 0 0) (ix x1) (ix x2) (ix x3)))]) rfl ?_
        exact td_ireturn rfl dX10_share_43 K
      · have K := Kf q27
        refine td_iconst (v := (-1)) dX10_share_30 (by decide) ?_
        exact td_ireturn rfl dX10_share_31 K
theorem M_share {G : td_G} {d : Nat} {h : td_H} {s : gS} (x1 x2 x3 : Int32) (O : OK s) (I : MI s h) : (okShare s.1 x1 x2 x3 → td_C G (d + 2) mX10_share [.ref 85, .int x1, .int x2, .int x3] h (mPost (nI (share (s.1 0 0) (ix x1) (ix x2) (ix x3))) s h)) ∧ (¬ okShare s.1 x1 x2 x3 → td_C G (d + 2) mX10_share [.ref 85, .int x1, .int x2, .int x3] h (mPost (-1) s h)) := by
  have bad : (some (Value.int (-1)) = some (.int (-1)) ∧ MI s h ∧ FD h h) := ⟨rfl, I, FD.rf h⟩
  have e0 : h 86 0 = nI (s.1 0 0) := I.1.1 0 (by decide)
  have hL := O.1.1
  refine ⟨fun ok => ?_, fun nk => ?_⟩
  · obtain ⟨o1, o2, o3⟩ := ok
    refine td_entry rfl (Nat.le_of_ble_eq_true rfl) rfl (gX10_share_0 (c := s.1) ?_)
    rw [e0]
    obtain ⟨k, hk, ek⟩ := in_n (by omega) o1
    refine ⟨fun y => absurd ((in64b (by omega)).mpr o1) (bz y), fun _ => ⟨fun y => absurd (iq 1 o2) (bz y), fun _ => ⟨fun _ => ⟨O.1, O.2.1, I.1, fun h2 hh => ⟨hh.2, ?_, (is_in (n := 2) (by decide)).mp o2, (is_in (n := 12) (by decide)).mp o3, rfl, I.q hh.1.N⟩⟩, fun y => absurd (iq 11 o3) (bz y)⟩⟩⟩
    rw [ek]; exact vp_in_nI (by omega) (by decide)
  · refine td_entry rfl (Nat.le_of_ble_eq_true rfl) rfl (gX10_share_0 (c := s.1) ?_)
    rw [e0]
    refine ⟨fun _ => bad, fun y => ⟨fun _ => bad, fun z => ⟨fun w => absurd ⟨(in64b (by omega)).mp (bnz y), iqn 1 (bnz z), iqn 11 (bnz w)⟩ nk, fun _ => bad⟩⟩⟩
set_option maxRecDepth 20000 in
set_option maxHeartbeats 4000000 in
theorem gX10_open_0 {G : td_G} {d : Nat} {Post : td_P} {c : nH} {x1 x2 : Int32} {h : td_H} (K : ((b2i (0 ≤ x1.toInt64 ∧ x1.toInt64 ≤ 1)) = 0 → (Post (some (.int (-1))) h)) ∧ (¬ (b2i (0 ≤ x1.toInt64 ∧ x1.toInt64 ≤ 1)) = 0 → ((¬ (b2i (0 ≤ x2.toInt64 ∧ x2.toInt64 ≤ 11)) = 0 → (wfC c ∧ 12 ≤ c 5 0 ∧ mZ c 86 h ∧ (∀ h25 : td_H, (FrA h h25 ∧ rmC c h25) → (td_J G (d + 3) mX10_open Post 33 [(0, .ref 85), (1, .int x1), (2, .int x2), (3, .int 0), (4, .int 0)] [] h25)))) ∧ ((b2i (0 ≤ x2.toInt64 ∧ x2.toInt64 ≤ 11)) = 0 → (Post (some (.int (-1))) h))))) : td_J G (d + 3) mX10_open Post 0 [(0, .ref 85), (1, .int x1), (2, .int x2)] [] h := by
  refine td_iload_n 1 dX10_open_0 rfl ?_
  refine td_i2l dX10_open_1 ?_
  refine td_lconst (v := 0) dX10_open_2 (by decide) ?_
  refine td_lconst (v := 1) dX10_open_3 (by decide) ?_
  refine cl_X10_75 rfl dX10_open_4 (Nat.le_of_ble_eq_true rfl) (c_in x1.toInt64 0 1) (eR_k ?_)
  refine td_eqs (st2 := [.int (b2i (0 ≤ x1.toInt64 ∧ x1.toInt64 ≤ 1))]) rfl ?_
  obtain ⟨Kt, Kf⟩ := K
  refine td_if_eq (tgt := 22) dX10_open_7 (by decide) (fun q7 => ?_) (fun q7 => ?_)
  · have K := Kt q7
    refine td_iconst (v := (-1)) dX10_open_22 (by decide) ?_
    exact td_ireturn rfl dX10_open_23 K
  · have K := Kf q7
    refine td_iload_n 2 dX10_open_10 rfl ?_
    refine td_i2l dX10_open_11 ?_
    refine td_lconst (v := 0) dX10_open_12 (by decide) ?_
    refine td_ldc2 (v := 11) kw_X10_102 dX10_open_13 ?_
    refine cl_X10_75 rfl dX10_open_16 (Nat.le_of_ble_eq_true rfl) (c_in x2.toInt64 0 11) (eR_k ?_)
    refine td_eqs (st2 := [.int (b2i (0 ≤ x2.toInt64 ∧ x2.toInt64 ≤ 11))]) rfl ?_
    obtain ⟨Kt, Kf⟩ := K
    refine td_if_ne (tgt := 24) dX10_open_19 (by decide) (fun q19 => ?_) (fun q19 => ?_)
    · have K := Kt q19
      refine td_aload_n 0 dX10_open_24 rfl ?_
      obtain ⟨e25_0, K⟩ := K
      obtain ⟨e25_1, K⟩ := K
      obtain ⟨e25_2, K⟩ := K
      refine cl_X10_104 rfl kp_85 dX10_open_25 (Nat.le_of_ble_eq_true rfl) (c_asTold c e25_0 e25_1 e25_2) ?_
      rintro _ h25 ⟨rfl, f25⟩
      have K := K h25 f25
      refine td_eqs (st2 := []) rfl ?_
      refine td_iconst (v := 0) dX10_open_28 (by decide) ?_
      refine td_istore_n (lv2 := [(0, .ref 85), (1, .int x1), (2, .int x2), (3, .int 0)]) dX10_open_29 (by decide) rfl ?_
      refine td_iconst (v := 0) dX10_open_30 (by decide) ?_
      refine td_istore (lv2 := [(0, .ref 85), (1, .int x1), (2, .int x2), (3, .int 0), (4, .int 0)]) dX10_open_31 (by decide) rfl ?_
      exact K
    · have K := Kf q19
      refine td_iconst (v := (-1)) dX10_open_22 (by decide) ?_
      exact td_ireturn rfl dX10_open_23 K
set_option maxRecDepth 20000 in
set_option maxHeartbeats 4000000 in
theorem gX10_open_33 {G : td_G} {d : Nat} {Post : td_P} {c : nH} {x1 x2 x3 x4 : Int32} {h : td_H} (K : ((h 86 0) ≤ x4 → (Post (some (.int x3)) h)) ∧ (¬ (h 86 0) ≤ x4 → (rmC c h ∧ vp_in x4 4 ∧ vp_in x1 2 ∧ vp_in x2 12 ∧ (td_J G (d + 3) mX10_open Post 33 [(0, .ref 85), (1, .int x1), (2, .int x2), (3, .int (x3 ||| (if (b2i (opn c (ix x4) (ix x1) (ix x2) = true)) = 0 then 0 else (jshl 1 x4) : Int32))), (4, .int (x4 + 1))] [] h)))) : td_J G (d + 3) mX10_open Post 33 [(0, .ref 85), (1, .int x1), (2, .int x2), (3, .int x3), (4, .int x4)] [] h := by
  refine td_iload 4 dX10_open_33 rfl ?_
  refine td_aload_n 0 dX10_open_35 rfl ?_
  refine gf_X10_7 rfl kp_85 dX10_open_36 ?_
  refine td_iconst (v := 0) dX10_open_39 (by decide) ?_
  refine td_ialdc (j := 0) kp_86 (by decide) (by unfold vp_in; decide) (by decide) dX10_open_40 ?_
  obtain ⟨Kt, Kf⟩ := K
  refine td_icmp_ge (tgt := 72) dX10_open_41 (by decide) (fun q41 => ?_) (fun q41 => ?_)
  · have K := Kt q41
    refine td_iload_n 3 dX10_open_72 rfl ?_
    exact td_ireturn rfl dX10_open_73 K
  · have K := Kf q41
    refine td_iload_n 3 dX10_open_44 rfl ?_
    refine td_aload_n 0 dX10_open_45 rfl ?_
    refine td_iload 4 dX10_open_46 rfl ?_
    refine td_iload_n 1 dX10_open_48 rfl ?_
    refine td_iload_n 2 dX10_open_49 rfl ?_
    obtain ⟨e50_0, K⟩ := K
    obtain ⟨e50_1, K⟩ := K
    obtain ⟨e50_2, K⟩ := K
    obtain ⟨e50_3, K⟩ := K
    refine cl_X10_107 rfl kp_85 dX10_open_50 (Nat.le_of_ble_eq_true rfl) (c_isOpen c x4 x1 x2 e50_0 e50_1 e50_2 e50_3) (eR_k ?_)
    refine td_eqs (st2 := [.int (b2i (opn c (ix x4) (ix x1) (ix x2) = true)), .int x3]) rfl ?_
    have KJ64 : td_J G (d + 3) mX10_open Post 64 [(0, .ref 85), (1, .int x1), (2, .int x2), (3, .int x3), (4, .int x4)] [.int (if (b2i (opn c (ix x4) (ix x1) (ix x2) = true)) = 0 then 0 else (jshl 1 x4) : Int32), .int x3] h := by
      refine td_ior dX10_open_64 ?_
      refine td_istore_n (lv2 := [(0, .ref 85), (1, .int x1), (2, .int x2), (3, .int (x3 ||| (if (b2i (opn c (ix x4) (ix x1) (ix x2) = true)) = 0 then 0 else (jshl 1 x4) : Int32))), (4, .int x4)]) dX10_open_65 (by decide) rfl ?_
      refine td_iinc 4 (v := x4 + 1) (lv2 := [(0, .ref 85), (1, .int x1), (2, .int x2), (3, .int (x3 ||| (if (b2i (opn c (ix x4) (ix x1) (ix x2) = true)) = 0 then 0 else (jshl 1 x4) : Int32))), (4, .int (x4 + 1))]) dX10_open_66 rfl (congrArg (x4 + ·) (by decide)) (by decide) rfl ?_
      refine td_goto (tgt := 33) dX10_open_69 (by decide) ?_
      exact K
    refine td_if_eq (tgt := 63) dX10_open_53 (by decide) (fun q53 => ?_) (fun q53 => ?_)
    · skip
      refine td_iconst (v := 0) dX10_open_63 (by decide) ?_
      exact td_to KJ64 rfl (by rw [show (if (b2i (opn c (ix x4) (ix x1) (ix x2) = true)) = 0 then 0 else (jshl 1 x4) : Int32) = _ from if_pos q53]) rfl
    · skip
      refine td_iconst (v := 1) dX10_open_56 (by decide) ?_
      refine td_iload 4 dX10_open_57 rfl ?_
      refine td_ishl dX10_open_59 ?_
      refine td_goto (tgt := 64) dX10_open_60 (by decide) ?_
      exact td_to KJ64 rfl (by rw [show (if (b2i (opn c (ix x4) (ix x1) (ix x2) = true)) = 0 then 0 else (jshl 1 x4) : Int32) = _ from if_neg q53]) rfl
theorem M_open {G : td_G} {d : Nat} {h : td_H} {s : gS} (x1 x2 : Int32) (O : OK s) (I : MI s h) : (okOpen x1 x2 → td_C G (d + 3) mX10_open [.ref 85, .int x1, .int x2] h (mPost (ms (opM (s.1 0 0) (s.1 0 1) (ix x1) (ix x2))) s h)) ∧ (¬ okOpen x1 x2 → td_C G (d + 3) mX10_open [.ref 85, .int x1, .int x2] h (mPost (-1) s h)) := by
  have bad : (some (Value.int (-1)) = some (.int (-1)) ∧ MI s h ∧ FD h h) := ⟨rfl, I, FD.rf h⟩
  have hL := O.1.1
  refine ⟨fun ok => ?_, fun nk => ?_⟩
  · obtain ⟨o1, o2⟩ := ok
    refine td_entry rfl (Nat.le_of_ble_eq_true rfl) rfl (gX10_open_0 (c := s.1) ⟨fun y => absurd (iq 1 o1) (bz y), fun _ => ⟨fun _ => ⟨O.1, O.2.1, I.1, fun h2 hh => ?_⟩, fun y => absurd (iq 11 o2) (bz y)⟩⟩)
    have e0 : h2 86 0 = nI (s.1 0 0) := (hh.1 86 0 (by omega)).trans (I.1.1 0 (by decide))
    refine td_for (s.1 0 0) (fun i => [(0, .ref 85), (1, .int x1), (2, .int x2), (3, .int (nI (mk (fun i => opn s.1 i (ix x1) (ix x2)) i))), (4, .int (nI i))]) (fun _ => h2) rfl rfl (fun i hi ih => ?_) ?_
    · refine gX10_open_33 (c := s.1) ?_
      rw [e0, ixn (i := i) (by omega)]
      refine ⟨fun y => absurd (le_of y) (by omega), fun _ => ⟨hh.2, vp_in_nI (by omega) (by decide), (is_in (n := 2) (by decide)).mp o1, (is_in (n := 12) (by decide)).mp o2, td_to ih ?_ rfl rfl⟩⟩
      rw [nI_1, b2i_ite, mk_step (p := fun i => opn s.1 i (ix x1) (ix x2)) (by omega)]
    · refine gX10_open_33 (c := s.1) ?_
      rw [e0]
      refine ⟨fun _ => ⟨?_, I.q hh.1.N⟩, fun y => absurd (nle_of y) (by omega)⟩
      rw [mk_ms (by omega)]
      rfl
  · refine td_entry rfl (Nat.le_of_ble_eq_true rfl) rfl (gX10_open_0 (c := s.1) ?_)
    exact ⟨fun _ => bad, fun y => ⟨fun z => absurd ⟨iqn 1 (bnz y), iqn 11 (bnz z)⟩ nk, fun _ => bad⟩⟩
set_option maxRecDepth 20000 in
set_option maxHeartbeats 4000000 in
theorem gX10_add_0 {G : td_G} {d : Nat} {Post : td_P} {x1 x2 x3 : Int32} {h : td_H} (K : vp_in (10 + (3 * (h 86 9))) 46 ∧ (vp_in ((10 + (3 * (h 86 9))) + 1) 46 ∧ (vp_in ((10 + (3 * (h 86 9))) + 2) 46 ∧ (Post none (hu (hu (hu (hu h 86 (ix (10 + (3 * (h 86 9)))) x1) 86 (ix ((10 + (3 * (h 86 9))) + 1)) x2) 86 (ix ((10 + (3 * (h 86 9))) + 2)) x3) 86 9 (((hu (hu (hu h 86 (ix (10 + (3 * (h 86 9)))) x1) 86 (ix ((10 + (3 * (h 86 9))) + 1)) x2) 86 (ix ((10 + (3 * (h 86 9))) + 2)) x3) 86 9) + 1)))))) : td_J G d mX10_add Post 0 [(0, .ref 85), (1, .int x1), (2, .int x2), (3, .int x3)] [] h := by
  refine td_bipush (v := 10) dX10_add_0 (by decide) ?_
  refine td_iconst (v := 3) dX10_add_2 (by decide) ?_
  refine td_aload_n 0 dX10_add_3 rfl ?_
  refine gf_X10_7 rfl kp_85 dX10_add_4 ?_
  refine td_bipush (v := 9) dX10_add_7 (by decide) ?_
  refine td_ialdc (j := 9) kp_86 (by decide) (by unfold vp_in; decide) (by decide) dX10_add_9 ?_
  refine td_imul dX10_add_10 ?_
  refine td_iadd dX10_add_11 ?_
  refine td_istore (lv2 := [(0, .ref 85), (1, .int x1), (2, .int x2), (3, .int x3), (4, .int (10 + (3 * (h 86 9))))]) dX10_add_12 (by decide) rfl ?_
  refine td_aload_n 0 dX10_add_14 rfl ?_
  refine gf_X10_7 rfl kp_85 dX10_add_15 ?_
  refine td_iload 4 dX10_add_18 rfl ?_
  refine td_iload_n 1 dX10_add_20 rfl ?_
  obtain ⟨e21, K⟩ := K
  refine td_iastc (j := (ix (10 + (3 * (h 86 9))))) kp_86 (by decide) e21 rfl dX10_add_21 ?_
  refine td_aload_n 0 dX10_add_22 rfl ?_
  refine gf_X10_7 rfl kp_85 dX10_add_23 ?_
  refine td_iload 4 dX10_add_26 rfl ?_
  refine td_iconst (v := 1) dX10_add_28 (by decide) ?_
  refine td_iadd dX10_add_29 ?_
  refine td_iload_n 2 dX10_add_30 rfl ?_
  obtain ⟨e31, K⟩ := K
  refine td_iastc (j := (ix ((10 + (3 * (h 86 9))) + 1))) kp_86 (by decide) e31 rfl dX10_add_31 ?_
  refine td_aload_n 0 dX10_add_32 rfl ?_
  refine gf_X10_7 rfl kp_85 dX10_add_33 ?_
  refine td_iload 4 dX10_add_36 rfl ?_
  refine td_iconst (v := 2) dX10_add_38 (by decide) ?_
  refine td_iadd dX10_add_39 ?_
  refine td_iload_n 3 dX10_add_40 rfl ?_
  obtain ⟨e41, K⟩ := K
  refine td_iastc (j := (ix ((10 + (3 * (h 86 9))) + 2))) kp_86 (by decide) e41 rfl dX10_add_41 ?_
  refine td_aload_n 0 dX10_add_42 rfl ?_
  refine gf_X10_7 rfl kp_85 dX10_add_43 ?_
  refine td_bipush (v := 9) dX10_add_46 (by decide) ?_
  refine td_dup2 dX10_add_48 rfl rfl ?_
  refine td_ialdc (j := 9) kp_86 (by decide) (by unfold vp_in; decide) (by decide) dX10_add_49 ?_
  refine td_iconst (v := 1) dX10_add_50 (by decide) ?_
  refine td_iadd dX10_add_51 ?_
  refine td_iastc (j := 9) kp_86 (by decide) (by unfold vp_in; decide) (by decide) dX10_add_52 ?_
  exact td_return rfl dX10_add_53 K
theorem mZ.add {g : nH} {h : td_H} (x : mZ g 86 h) (t a b : Nat) : mZ (addG g t a b) 86 (hu (hu (hu (hu h 86 (10 + 3 * g 1 0) (nI t)) 86 (11 + 3 * g 1 0) (nI a)) 86 (12 + 3 * g 1 0) (nI b)) 86 9 (nI (g 1 0 + 1))) := by
  have hu4 : ∀ i, (hu (hu (hu (hu h 86 (10 + 3 * g 1 0) (nI t)) 86 (11 + 3 * g 1 0) (nI a)) 86 (12 + 3 * g 1 0) (nI b)) 86 9 (nI (g 1 0 + 1))) 86 i = if i = 9 then nI (g 1 0 + 1) else if i = 12 + 3 * g 1 0 then nI b else if i = 11 + 3 * g 1 0 then nI a else if i = 10 + 3 * g 1 0 then nI t else h 86 i := fun i => by
    simp only [hu_app, true_and]
  refine ⟨fun i hi => ?_, ?_, fun p hp => ?_⟩
  · rw [hu4, if_neg (by omega), if_neg (by omega), if_neg (by omega), if_neg (by omega), addG_0]; exact x.1 i hi
  · rw [hu4, if_pos rfl, addG_1]
  · rw [addG_1] at hp
    rw [hu4, hu4, hu4, addG_2, addG_3, addG_4]
    by_cases e : p = g 1 0
    · subst e
      refine ⟨?_, ?_, ?_⟩
      · rw [if_neg (by omega), if_neg (by omega), if_neg (by omega), if_pos rfl, if_pos rfl]
      · rw [if_neg (by omega), if_neg (by omega), if_pos rfl, if_pos rfl]
      · rw [if_neg (by omega), if_pos rfl, if_pos rfl]
    · refine ⟨?_, ?_, ?_⟩
      · rw [if_neg (by omega), if_neg (by omega), if_neg (by omega), if_neg (by omega), if_neg e]; exact (x.2.2 p (by omega)).1
      · rw [if_neg (by omega), if_neg (by omega), if_neg (by omega), if_neg (by omega), if_neg e]; exact (x.2.2 p (by omega)).2.1
      · rw [if_neg (by omega), if_neg (by omega), if_neg (by omega), if_neg (by omega), if_neg e]; exact (x.2.2 p (by omega)).2.2
theorem c_madd {G : td_G} {d : Nat} {h : td_H} (c : nH) (ta sa ka : Nat) (x1 x2 x3 : Int32) (h1 : x1 = nI ta) (h2 : x2 = nI sa) (h3 : x3 = nI ka) (hZ : mZ c 86 h) (hn : c 1 0 < 12) : td_C G d mX10_add [.ref 85, .int x1, .int x2, .int x3] h (fun r h' => r = none ∧ (∀ a b, a ≠ 86 → h' a b = h a b) ∧ mZ (addG c ta sa ka) 86 h') := by
  subst h1; subst h2; subst h3
  have e0 : 10 + 3 * nI (c 1 0) = nI (10 + 3 * c 1 0) := by rw [show (10 : Int32) = nI 10 from rfl, show (3 : Int32) = nI 3 from rfl, pk_mul, nI_add]
  have e1 : nI (10 + 3 * c 1 0) + 1 = nI (11 + 3 * c 1 0) := by rw [nI_1]; congr 1; omega
  have e2 : nI (10 + 3 * c 1 0) + 2 = nI (12 + 3 * c 1 0) := by rw [show (2 : Int32) = nI 2 from rfl, nI_add]; congr 1; omega
  refine td_entry rfl (Nat.le_of_ble_eq_true rfl) rfl (gX10_add_0 ?_)
  rw [hZ.2.1, e0, e1, e2, ixn (i := 10 + 3 * c 1 0) (by omega), ixn (i := 11 + 3 * c 1 0) (by omega), ixn (i := 12 + 3 * c 1 0) (by omega)]
  refine ⟨vp_in_nI (by omega) (by decide), vp_in_nI (by omega) (by decide), vp_in_nI (by omega) (by decide), rfl, fun a b z => ?_, ?_⟩
  · rw [hu_app, if_neg (fun w => z w.1), hu_app, if_neg (fun w => z w.1), hu_app, if_neg (fun w => z w.1), hu_app, if_neg (fun w => z w.1)]
  · have z := hZ.add ta sa ka
    have e9 : (hu (hu (hu h 86 (10 + 3 * c 1 0) (nI ta)) 86 (11 + 3 * c 1 0) (nI sa)) 86 (12 + 3 * c 1 0) (nI ka)) 86 9 = nI (c 1 0) := by rw [hu_app, if_neg (by omega), hu_app, if_neg (by omega), hu_app, if_neg (by omega)]; exact hZ.2.1
    rw [e9, nI_1]
    exact z
set_option maxRecDepth 20000 in
set_option maxHeartbeats 4000000 in
theorem gX10_person_0 {G : td_G} {d : Nat} {Post : td_P} {ka sa ta : Nat} {c : nH} {x1 x2 x3 : Int32} {h : td_H} (K : ((b2i (0 ≤ x1.toInt64 ∧ x1.toInt64 ≤ 119)) = 0 → (Post (some (.int (-1))) h)) ∧ (¬ (b2i (0 ≤ x1.toInt64 ∧ x1.toInt64 ≤ 119)) = 0 → (((b2i (0 ≤ x2.toInt64 ∧ x2.toInt64 ≤ 1)) = 0 → (Post (some (.int (-1))) h)) ∧ (¬ (b2i (0 ≤ x2.toInt64 ∧ x2.toInt64 ≤ 1)) = 0 → ((¬ (b2i (0 ≤ x3.toInt64 ∧ x3.toInt64 ≤ 5)) = 0 → ((¬ (h 86 9) = 12 → (x1 = nI ta ∧ x2 = nI sa ∧ x3 = nI ka ∧ mZ c 86 h ∧ c 1 0 < 12 ∧ (∀ h55 : td_H, ((∀ a b, a ≠ 86 → h55 a b = h a b) ∧ mZ (addG c ta sa ka) 86 h55) → (Post (some (.int ((h55 86 9) - 1))) h55)))) ∧ ((h 86 9) = 12 → (Post (some (.int (-3))) h)))) ∧ ((b2i (0 ≤ x3.toInt64 ∧ x3.toInt64 ≤ 5)) = 0 → (Post (some (.int (-1))) h))))))) : td_J G (d + 1) mX10_person Post 0 [(0, .ref 85), (1, .int x1), (2, .int x2), (3, .int x3)] [] h := by
  refine td_iload_n 1 dX10_person_0 rfl ?_
  refine td_i2l dX10_person_1 ?_
  refine td_lconst (v := 0) dX10_person_2 (by decide) ?_
  refine td_ldc2 (v := 119) kw_X10_111 dX10_person_3 ?_
  refine cl_X10_75 rfl dX10_person_6 (Nat.le_of_ble_eq_true rfl) (c_in x1.toInt64 0 119) (eR_k ?_)
  refine td_eqs (st2 := [.int (b2i (0 ≤ x1.toInt64 ∧ x1.toInt64 ≤ 119))]) rfl ?_
  obtain ⟨Kt, Kf⟩ := K
  refine td_if_eq (tgt := 34) dX10_person_9 (by decide) (fun q9 => ?_) (fun q9 => ?_)
  · have K := Kt q9
    refine td_iconst (v := (-1)) dX10_person_34 (by decide) ?_
    exact td_ireturn rfl dX10_person_35 K
  · have K := Kf q9
    refine td_iload_n 2 dX10_person_12 rfl ?_
    refine td_i2l dX10_person_13 ?_
    refine td_lconst (v := 0) dX10_person_14 (by decide) ?_
    refine td_lconst (v := 1) dX10_person_15 (by decide) ?_
    refine cl_X10_75 rfl dX10_person_16 (Nat.le_of_ble_eq_true rfl) (c_in x2.toInt64 0 1) (eR_k ?_)
    refine td_eqs (st2 := [.int (b2i (0 ≤ x2.toInt64 ∧ x2.toInt64 ≤ 1))]) rfl ?_
    obtain ⟨Kt, Kf⟩ := K
    refine td_if_eq (tgt := 34) dX10_person_19 (by decide) (fun q19 => ?_) (fun q19 => ?_)
    · have K := Kt q19
      refine td_iconst (v := (-1)) dX10_person_34 (by decide) ?_
      exact td_ireturn rfl dX10_person_35 K
    · have K := Kf q19
      refine td_iload_n 3 dX10_person_22 rfl ?_
      refine td_i2l dX10_person_23 ?_
      refine td_lconst (v := 0) dX10_person_24 (by decide) ?_
      refine td_ldc2 (v := 5) kw_X10_113 dX10_person_25 ?_
      refine cl_X10_75 rfl dX10_person_28 (Nat.le_of_ble_eq_true rfl) (c_in x3.toInt64 0 5) (eR_k ?_)
      refine td_eqs (st2 := [.int (b2i (0 ≤ x3.toInt64 ∧ x3.toInt64 ≤ 5))]) rfl ?_
      obtain ⟨Kt, Kf⟩ := K
      refine td_if_ne (tgt := 36) dX10_person_31 (by decide) (fun q31 => ?_) (fun q31 => ?_)
      · have K := Kt q31
        refine td_aload_n 0 dX10_person_36 rfl ?_
        refine gf_X10_7 rfl kp_85 dX10_person_37 ?_
        refine td_bipush (v := 9) dX10_person_40 (by decide) ?_
        refine td_ialdc (j := 9) kp_86 (by decide) (by unfold vp_in; decide) (by decide) dX10_person_42 ?_
        refine td_bipush (v := 12) dX10_person_43 (by decide) ?_
        obtain ⟨Kt, Kf⟩ := K
        refine td_icmp_ne (tgt := 51) dX10_person_45 (by decide) (fun q45 => ?_) (fun q45 => ?_)
        · have K := Kt q45
          refine td_aload_n 0 dX10_person_51 rfl ?_
          refine td_iload_n 1 dX10_person_52 rfl ?_
          refine td_iload_n 2 dX10_person_53 rfl ?_
          refine td_iload_n 3 dX10_person_54 rfl ?_
          obtain ⟨e55_0, K⟩ := K
          obtain ⟨e55_1, K⟩ := K
          obtain ⟨e55_2, K⟩ := K
          obtain ⟨e55_3, K⟩ := K
          obtain ⟨e55_4, K⟩ := K
          refine cl_X10_115 rfl kp_85 dX10_person_55 (Nat.le_of_ble_eq_true rfl) (c_madd c ta sa ka x1 x2 x3 e55_0 e55_1 e55_2 e55_3 e55_4) ?_
          rintro _ h55 ⟨rfl, f55⟩
          have K := K h55 f55
          refine td_eqs (st2 := []) rfl ?_
          refine td_aload_n 0 dX10_person_58 rfl ?_
          refine gf_X10_7 rfl kp_85 dX10_person_59 ?_
          refine td_bipush (v := 9) dX10_person_62 (by decide) ?_
          refine td_ialdc (j := 9) kp_86 (by decide) (by unfold vp_in; decide) (by decide) dX10_person_64 ?_
          refine td_iconst (v := 1) dX10_person_65 (by decide) ?_
          refine td_isub dX10_person_66 ?_
          exact td_ireturn rfl dX10_person_67 K
        · have K := Kf q45
          refine td_bipush (v := (-3)) dX10_person_48 (by decide) ?_
          exact td_ireturn rfl dX10_person_50 K
      · have K := Kf q31
        refine td_iconst (v := (-1)) dX10_person_34 (by decide) ?_
        exact td_ireturn rfl dX10_person_35 K
theorem M_person {G : td_G} {d : Nat} {h : td_H} {s : gS} (x1 x2 x3 : Int32) (O : OK s) (I : MI s h) : (okPers x1 x2 x3 → s.1 1 0 < 12 → td_C G (d + 1) mX10_person [.ref 85, .int x1, .int x2, .int x3] h (mPost (nI (s.1 1 0)) (addG s.1 (ix x1) (ix x2) (ix x3), s.2) h)) ∧ (okPers x1 x2 x3 → ¬ s.1 1 0 < 12 → td_C G (d + 1) mX10_person [.ref 85, .int x1, .int x2, .int x3] h (mPost (-3) s h)) ∧ (¬ okPers x1 x2 x3 → td_C G (d + 1) mX10_person [.ref 85, .int x1, .int x2, .int x3] h (mPost (-1) s h)) := by
  have bad : (some (Value.int (-1)) = some (.int (-1)) ∧ MI s h ∧ FD h h) := ⟨rfl, I, FD.rf h⟩
  have e9 : h 86 9 = nI (s.1 1 0) := I.1.2.1
  have hn := O.1.n
  refine ⟨fun ok hl => ?_, fun ok hl => ?_, fun nk => ?_⟩
  · obtain ⟨o1, o2, o3⟩ := ok
    refine td_entry rfl (Nat.le_of_ble_eq_true rfl) rfl (gX10_person_0 (c := s.1) (ta := ix x1) (sa := ix x2) (ka := ix x3) ?_)
    rw [e9]
    refine ⟨fun y => absurd (iq 119 o1) (bz y), fun _ => ⟨fun y => absurd (iq 1 o2) (bz y), fun _ => ⟨fun _ => ⟨fun _ => ⟨(nn_of o1.1).1, (nn_of o2.1).1, (nn_of o3.1).1, I.1, hl, fun h2 hh => ?_⟩, fun y => absurd (eq_of (b := 12) y) (by omega)⟩, fun y => absurd (iq 5 o3) (bz y)⟩⟩⟩
    refine ⟨?_, I.plan _ hh.2 hh.1⟩
    rw [hh.2.2.1, addG_1, show nI (s.1 1 0 + 1) - 1 = nI (s.1 1 0) from pk_sub (a := s.1 1 0 + 1) (b := 1) (by omega)]
  · obtain ⟨o1, o2, o3⟩ := ok
    refine td_entry rfl (Nat.le_of_ble_eq_true rfl) rfl (gX10_person_0 (c := s.1) (ta := ix x1) (sa := ix x2) (ka := ix x3) ?_)
    rw [e9]
    exact ⟨fun y => absurd (iq 119 o1) (bz y), fun _ => ⟨fun y => absurd (iq 1 o2) (bz y), fun _ => ⟨fun _ => ⟨fun y => absurd (congrArg nI (show s.1 1 0 = 12 by omega)) y, fun _ => ⟨rfl, I, FD.rf h⟩⟩, fun y => absurd (iq 5 o3) (bz y)⟩⟩⟩
  · refine td_entry rfl (Nat.le_of_ble_eq_true rfl) rfl (gX10_person_0 (c := s.1) (ta := ix x1) (sa := ix x2) (ka := ix x3) ?_)
    exact ⟨fun _ => bad, fun y => ⟨fun _ => bad, fun z => ⟨fun w => absurd ⟨iqn 119 (bnz y), iqn 1 (bnz z), iqn 5 (bnz w)⟩ nk, fun _ => bad⟩⟩⟩
set_option maxRecDepth 20000 in
set_option maxHeartbeats 4000000 in
theorem gX10_told_0 {G : td_G} {d : Nat} {Post : td_P} {x1 x2 : Int32} {h : td_H} (K : ((b2i (0 ≤ (x1).toInt64 ∧ (x1).toInt64 ≤ (((h 86 9) - 1).toInt64))) = 0 → (Post (some (.int (-1))) h)) ∧ (¬ (b2i (0 ≤ (x1).toInt64 ∧ (x1).toInt64 ≤ (((h 86 9) - 1).toInt64))) = 0 → ((¬ (b2i (0 ≤ x2.toInt64 ∧ x2.toInt64 ≤ 4)) = 0 → (((3 ≤ x2 → ((¬ x2 = 3 → (vp_in ((10 + (3 * x1)) + 2) 46 ∧ True)) ∧ (x2 = 3 → (vp_in ((10 + (3 * x1)) + 2) 46 ∧ True)))) ∧ (¬ 3 ≤ x2 → (vp_in ((10 + (3 * x1)) + x2) 46 ∧ True))) ∧ (Post (some (.int (if 3 ≤ x2 then if x2 = 3 then (szI (h 86 (ix ((10 + (3 * x1)) + 2)))) else (puI (h 86 (ix ((10 + (3 * x1)) + 2)))) else (h 86 (ix ((10 + (3 * x1)) + x2))) : Int32))) h))) ∧ ((b2i (0 ≤ x2.toInt64 ∧ x2.toInt64 ≤ 4)) = 0 → (Post (some (.int (-1))) h))))) : td_J G (d + 2) mX10_told Post 0 [(0, .ref 85), (1, .int x1), (2, .int x2)] [] h := by
  refine td_aload_n 0 dX10_told_0 rfl ?_
  refine td_iload_n 1 dX10_told_1 rfl ?_
  refine cl_X10_119 rfl kp_85 dX10_told_2 (Nat.le_of_ble_eq_true rfl) (c_isPerson x1) (eR_k ?_)
  refine td_eqs (st2 := [.int (b2i (0 ≤ (x1).toInt64 ∧ (x1).toInt64 ≤ (((h 86 9) - 1).toInt64)))]) rfl ?_
  obtain ⟨Kt, Kf⟩ := K
  refine td_if_eq (tgt := 20) dX10_told_5 (by decide) (fun q5 => ?_) (fun q5 => ?_)
  · have K := Kt q5
    refine td_iconst (v := (-1)) dX10_told_20 (by decide) ?_
    exact td_ireturn rfl dX10_told_21 K
  · have K := Kf q5
    refine td_iload_n 2 dX10_told_8 rfl ?_
    refine td_i2l dX10_told_9 ?_
    refine td_lconst (v := 0) dX10_told_10 (by decide) ?_
    refine td_ldc2 (v := 4) kw_X10_122 dX10_told_11 ?_
    refine cl_X10_75 rfl dX10_told_14 (Nat.le_of_ble_eq_true rfl) (c_in x2.toInt64 0 4) (eR_k ?_)
    refine td_eqs (st2 := [.int (b2i (0 ≤ x2.toInt64 ∧ x2.toInt64 ≤ 4))]) rfl ?_
    obtain ⟨Kt, Kf⟩ := K
    refine td_if_ne (tgt := 22) dX10_told_17 (by decide) (fun q17 => ?_) (fun q17 => ?_)
    · have K := Kt q17
      refine td_iload_n 2 dX10_told_22 rfl ?_
      refine td_iconst (v := 3) dX10_told_23 (by decide) ?_
      obtain ⟨Ks24, K⟩ := K
      have KJ62 : td_J G (d + 2) mX10_told Post 62 [(0, .ref 85), (1, .int x1), (2, .int x2)] [.int (if 3 ≤ x2 then if x2 = 3 then (szI (h 86 (ix ((10 + (3 * x1)) + 2)))) else (puI (h 86 (ix ((10 + (3 * x1)) + 2)))) else (h 86 (ix ((10 + (3 * x1)) + x2))) : Int32)] h := by
        exact td_ireturn rfl dX10_told_62 K
      refine td_icmp_ge (tgt := 36) dX10_told_24 (by decide) (fun q24 => ?_) (fun q24 => ?_)
      · have K := Ks24.1 q24
        refine td_iload_n 2 dX10_told_36 rfl ?_
        refine td_iconst (v := 3) dX10_told_37 (by decide) ?_
        refine td_icmp_ne (tgt := 53) dX10_told_38 (by decide) (fun q38 => ?_) (fun q38 => ?_)
        · have K := K.1 q38
          refine td_aload_n 0 dX10_told_53 rfl ?_
          refine td_iload_n 1 dX10_told_54 rfl ?_
          refine td_iconst (v := 2) dX10_told_55 (by decide) ?_
          obtain ⟨e56_0, K⟩ := K
          refine cl_X10_94 rfl kp_85 dX10_told_56 (Nat.le_of_ble_eq_true rfl) (c_of x1 2 e56_0) (eR_k ?_)
          refine td_eqs (st2 := [.int (h 86 (ix ((10 + (3 * x1)) + 2)))]) rfl ?_
          refine cl_X10_127 rfl dX10_told_59 (Nat.le_of_ble_eq_true rfl) (c_pushOf (h 86 (ix ((10 + (3 * x1)) + 2)))) (eR_k ?_)
          refine td_eqs (st2 := [.int (puI (h 86 (ix ((10 + (3 * x1)) + 2))))]) rfl ?_
          exact td_to KJ62 rfl (by rw [show (if 3 ≤ x2 then if x2 = 3 then (szI (h 86 (ix ((10 + (3 * x1)) + 2)))) else (puI (h 86 (ix ((10 + (3 * x1)) + 2)))) else (h 86 (ix ((10 + (3 * x1)) + x2))) : Int32) = _ from (if_pos q24).trans (if_neg q38)]) rfl
        · have K := K.2 q38
          refine td_aload_n 0 dX10_told_41 rfl ?_
          refine td_iload_n 1 dX10_told_42 rfl ?_
          refine td_iconst (v := 2) dX10_told_43 (by decide) ?_
          obtain ⟨e44_0, K⟩ := K
          refine cl_X10_94 rfl kp_85 dX10_told_44 (Nat.le_of_ble_eq_true rfl) (c_of x1 2 e44_0) (eR_k ?_)
          refine td_eqs (st2 := [.int (h 86 (ix ((10 + (3 * x1)) + 2)))]) rfl ?_
          refine cl_X10_124 rfl dX10_told_47 (Nat.le_of_ble_eq_true rfl) (c_sizeOf (h 86 (ix ((10 + (3 * x1)) + 2)))) (eR_k ?_)
          refine td_eqs (st2 := [.int (szI (h 86 (ix ((10 + (3 * x1)) + 2))))]) rfl ?_
          refine td_goto (tgt := 62) dX10_told_50 (by decide) ?_
          exact td_to KJ62 rfl (by rw [show (if 3 ≤ x2 then if x2 = 3 then (szI (h 86 (ix ((10 + (3 * x1)) + 2)))) else (puI (h 86 (ix ((10 + (3 * x1)) + 2)))) else (h 86 (ix ((10 + (3 * x1)) + x2))) : Int32) = _ from (if_pos q24).trans (if_pos q38)]) rfl
      · have K := Ks24.2 q24
        refine td_aload_n 0 dX10_told_27 rfl ?_
        refine td_iload_n 1 dX10_told_28 rfl ?_
        refine td_iload_n 2 dX10_told_29 rfl ?_
        obtain ⟨e30_0, K⟩ := K
        refine cl_X10_94 rfl kp_85 dX10_told_30 (Nat.le_of_ble_eq_true rfl) (c_of x1 x2 e30_0) (eR_k ?_)
        refine td_eqs (st2 := [.int (h 86 (ix ((10 + (3 * x1)) + x2)))]) rfl ?_
        refine td_goto (tgt := 62) dX10_told_33 (by decide) ?_
        exact td_to KJ62 rfl (by rw [show (if 3 ≤ x2 then if x2 = 3 then (szI (h 86 (ix ((10 + (3 * x1)) + 2)))) else (puI (h 86 (ix ((10 + (3 * x1)) + 2)))) else (h 86 (ix ((10 + (3 * x1)) + x2))) : Int32) = _ from if_neg q24]) rfl
    · have K := Kf q17
      refine td_iconst (v := (-1)) dX10_told_20 (by decide) ?_
      exact td_ireturn rfl dX10_told_21 K
theorem of_y {p w : Nat} (hp : p < 12) (hw : w < 3) : (10 + 3 * nI p) + nI w = nI (10 + 3 * p + w) := of_v hp hw
theorem M_told {G : td_G} {d : Nat} {h : td_H} {s : gS} (x1 x2 : Int32) (O : OK s) (I : MI s h) : (isP s.1 x1 → td_C G (d + 2) mX10_told [.ref 85, .int x1, .int x2] h (mPost (aTold s.1 (ix x1) x2) s h)) ∧ (¬ isP s.1 x1 → td_C G (d + 2) mX10_told [.ref 85, .int x1, .int x2] h (mPost (-1) s h)) := by
  have e9 : h 86 9 = nI (s.1 1 0) := I.1.2.1
  have hn := O.1.n
  refine ⟨fun ok => ?_, fun nk => ?_⟩
  · obtain ⟨p, hp, rfl, ep, v12⟩ := isP_of O.1 ok
    rw [ep]
    refine td_entry rfl (Nat.le_of_ble_eq_true rfl) rfl (gX10_told_0 ?_)
    rw [e9]
    have i2 : vp_in ((10 + (3 * nI p)) + 2) 46 := of_in (p := p) (by omega) (w := 2) (by decide)
    refine ⟨fun y => absurd ((in64b (by omega)).mpr ok) (bz y), fun _ => ⟨fun y => ?_, fun y => ⟨?_, I, FD.rf h⟩⟩⟩
    · obtain ⟨w, hw, rfl⟩ := in_n (n := 5) (by decide) (iqn 4 (bnz y))
      refine ⟨⟨fun _ => ⟨fun _ => ⟨i2, trivial⟩, fun _ => ⟨i2, trivial⟩⟩, fun z => ⟨of_in (p := p) (by omega) (w := w) (nle_of (a := 3) z), trivial⟩⟩, ?_, I, FD.rf h⟩
      have e2 : h 86 (ix ((10 + (3 * nI p)) + 2)) = nI (s.1 3 p) := by
        have e := of_ix (p := p) (by omega) (w := 2) (by decide)
        rw [show (nI 2 : Int32) = 2 from rfl] at e
        rw [e, show 10 + 3 * p + 2 = 12 + 3 * p by omega]
        exact (I.1.2.2 p hp).2.2
      rw [e2, sz_n (O.1.p hp).2.1, pu_n (O.1.p hp).2.1]
      unfold aTold
      rcases (by omega : w = 0 ∨ w = 1 ∨ w = 2 ∨ w = 3 ∨ w = 4) with z | z | z | z | z <;> subst z
      · rw [if_neg (by decide), if_pos (by decide), show ix (10 + 3 * nI p + nI 0) = 10 + 3 * p from of_ix (p := p) (by omega) (w := 0) (by decide), (I.1.2.2 p hp).1]
      · rw [if_neg (by decide), if_neg (by decide), if_pos (by decide), of_ix (p := p) (by omega) (w := 1) (by decide), show 10 + 3 * p + 1 = 11 + 3 * p by omega, (I.1.2.2 p hp).2.1]
      · rw [if_neg (by decide), if_neg (by decide), if_neg (by decide), if_pos (by decide), of_ix (p := p) (by omega) (w := 2) (by decide), show 10 + 3 * p + 2 = 12 + 3 * p by omega, (I.1.2.2 p hp).2.2]
      · rw [if_pos (by decide), if_pos (by decide), if_neg (by decide), if_neg (by decide), if_neg (by decide), if_pos (by decide)]
      · rw [if_pos (by decide), if_neg (by decide), if_neg (by decide), if_neg (by decide), if_neg (by decide), if_neg (by decide), if_pos (by decide)]
    · unfold aTold
      have z : ¬ (0 ≤ x2 ∧ x2 < 5) := fun w => bz y (iq 4 w)
      rw [if_neg (fun e => z (by subst e; decide)), if_neg (fun e => z (by subst e; decide)), if_neg (fun e => z (by subst e; decide)), if_neg (fun e => z (by subst e; decide)), if_neg (fun e => z (by subst e; decide))]
  · refine td_entry rfl (Nat.le_of_ble_eq_true rfl) rfl (gX10_told_0 ?_)
    rw [e9]
    exact ⟨fun _ => ⟨rfl, I, FD.rf h⟩, fun y => absurd ((in64b (by omega)).mp (bnz y)) nk⟩
set_option maxRecDepth 20000 in
set_option maxHeartbeats 4000000 in
theorem gX10_delay_0 {G : td_G} {d : Nat} {Post : td_P} {x1 x2 : Int32} {h : td_H} (K : ((b2i (0 ≤ (x1).toInt64 ∧ (x1).toInt64 ≤ (((h 86 9) - 1).toInt64))) = 0 → (Post (some (.int (-1))) h)) ∧ (¬ (b2i (0 ≤ (x1).toInt64 ∧ (x1).toInt64 ≤ (((h 86 9) - 1).toInt64))) = 0 → ((¬ (b2i (0 ≤ x2.toInt64 ∧ x2.toInt64 ≤ 119)) = 0 → (vp_in ((10 + (3 * x1)) + 0) 46 ∧ (vp_in (10 + (3 * x1)) 46 ∧ (Post (some (.int (h 86 (ix ((10 + (3 * x1)) + 0))))) (hu h 86 (ix (10 + (3 * x1))) x2))))) ∧ ((b2i (0 ≤ x2.toInt64 ∧ x2.toInt64 ≤ 119)) = 0 → (Post (some (.int (-1))) h))))) : td_J G (d + 2) mX10_delay Post 0 [(0, .ref 85), (1, .int x1), (2, .int x2)] [] h := by
  refine td_aload_n 0 dX10_delay_0 rfl ?_
  refine td_iload_n 1 dX10_delay_1 rfl ?_
  refine cl_X10_119 rfl kp_85 dX10_delay_2 (Nat.le_of_ble_eq_true rfl) (c_isPerson x1) (eR_k ?_)
  refine td_eqs (st2 := [.int (b2i (0 ≤ (x1).toInt64 ∧ (x1).toInt64 ≤ (((h 86 9) - 1).toInt64)))]) rfl ?_
  obtain ⟨Kt, Kf⟩ := K
  refine td_if_eq (tgt := 20) dX10_delay_5 (by decide) (fun q5 => ?_) (fun q5 => ?_)
  · have K := Kt q5
    refine td_iconst (v := (-1)) dX10_delay_20 (by decide) ?_
    exact td_ireturn rfl dX10_delay_21 K
  · have K := Kf q5
    refine td_iload_n 2 dX10_delay_8 rfl ?_
    refine td_i2l dX10_delay_9 ?_
    refine td_lconst (v := 0) dX10_delay_10 (by decide) ?_
    refine td_ldc2 (v := 119) kw_X10_111 dX10_delay_11 ?_
    refine cl_X10_75 rfl dX10_delay_14 (Nat.le_of_ble_eq_true rfl) (c_in x2.toInt64 0 119) (eR_k ?_)
    refine td_eqs (st2 := [.int (b2i (0 ≤ x2.toInt64 ∧ x2.toInt64 ≤ 119))]) rfl ?_
    obtain ⟨Kt, Kf⟩ := K
    refine td_if_ne (tgt := 22) dX10_delay_17 (by decide) (fun q17 => ?_) (fun q17 => ?_)
    · have K := Kt q17
      refine td_aload_n 0 dX10_delay_22 rfl ?_
      refine td_iload_n 1 dX10_delay_23 rfl ?_
      refine td_iconst (v := 0) dX10_delay_24 (by decide) ?_
      obtain ⟨e25_0, K⟩ := K
      refine cl_X10_94 rfl kp_85 dX10_delay_25 (Nat.le_of_ble_eq_true rfl) (c_of x1 0 e25_0) (eR_k ?_)
      refine td_eqs (st2 := [.int (h 86 (ix ((10 + (3 * x1)) + 0)))]) rfl ?_
      refine td_istore_n (lv2 := [(0, .ref 85), (1, .int x1), (2, .int x2), (3, .int (h 86 (ix ((10 + (3 * x1)) + 0))))]) dX10_delay_28 (by decide) rfl ?_
      refine td_aload_n 0 dX10_delay_29 rfl ?_
      refine gf_X10_7 rfl kp_85 dX10_delay_30 ?_
      refine td_bipush (v := 10) dX10_delay_33 (by decide) ?_
      refine td_iconst (v := 3) dX10_delay_35 (by decide) ?_
      refine td_iload_n 1 dX10_delay_36 rfl ?_
      refine td_imul dX10_delay_37 ?_
      refine td_iadd dX10_delay_38 ?_
      refine td_iload_n 2 dX10_delay_39 rfl ?_
      obtain ⟨e40, K⟩ := K
      refine td_iastc (j := (ix (10 + (3 * x1)))) kp_86 (by decide) e40 rfl dX10_delay_40 ?_
      refine td_iload_n 3 dX10_delay_41 rfl ?_
      exact td_ireturn rfl dX10_delay_42 K
    · have K := Kf q17
      refine td_iconst (v := (-1)) dX10_delay_20 (by decide) ?_
      exact td_ireturn rfl dX10_delay_21 K
theorem mZ.delay {g : nH} {h : td_H} (x : mZ g 86 h) {p t : Nat} (hp : p < g 1 0) : mZ (nu g 4 p t) 86 (hu h 86 (10 + 3 * p) (nI t)) := by
  have e : ∀ a b, a ≠ 4 → nu g 4 p t a b = g a b := fun a b z => by rw [nu_app, if_neg (fun w => z w.1)]
  refine ⟨fun i hi => ?_, ?_, fun q hq => ?_⟩
  · rw [e 0 i (by decide), hu_app, if_neg (by omega)]; exact x.1 i hi
  · rw [e 1 0 (by decide), hu_app, if_neg (by omega)]; exact x.2.1
  · rw [e 1 0 (by decide)] at hq
    rw [e 2 q (by decide), e 3 q (by decide), hu_app, hu_app, hu_app, nu_app]
    refine ⟨?_, by rw [if_neg (by omega)]; exact (x.2.2 q hq).2.1, by rw [if_neg (by omega)]; exact (x.2.2 q hq).2.2⟩
    by_cases z : q = p
    · rw [if_pos ⟨rfl, by omega⟩, if_pos ⟨rfl, z⟩]
    · rw [if_neg (by omega), if_neg (fun w => z w.2)]; exact (x.2.2 q hq).1
theorem M_delay {G : td_G} {d : Nat} {h : td_H} {s : gS} (x1 x2 : Int32) (O : OK s) (I : MI s h) : (okDelay s.1 x1 x2 → td_C G (d + 2) mX10_delay [.ref 85, .int x1, .int x2] h (mPost (nI (s.1 4 (ix x1))) (nu s.1 4 (ix x1) (ix x2), s.2) h)) ∧ (¬ okDelay s.1 x1 x2 → td_C G (d + 2) mX10_delay [.ref 85, .int x1, .int x2] h (mPost (-1) s h)) := by
  have e9 : h 86 9 = nI (s.1 1 0) := I.1.2.1
  have hn := O.1.n
  refine ⟨fun ok => ?_, fun nk => ?_⟩
  · obtain ⟨p, hp, rfl, ep, v12⟩ := isP_of O.1 ok.1
    obtain ⟨t, ht, rfl⟩ := in_n (n := 120) (by decide) ok.2
    have i0 : vp_in ((10 + (3 * nI p)) + 0) 46 := of_in (p := p) (by omega) (w := 0) (by decide)
    have e0 : 10 + 3 * nI p = nI (10 + 3 * p) := by rw [show (10 : Int32) = nI 10 from rfl, show (3 : Int32) = nI 3 from rfl, pk_mul, nI_add]
    have ei : ix ((10 + (3 * nI p)) + 0) = 10 + 3 * p := of_ix (p := p) (by omega) (w := 0) (by decide)
    rw [ep, ixn (i := t) (by omega)]
    refine td_entry rfl (Nat.le_of_ble_eq_true rfl) rfl (gX10_delay_0 ?_)
    rw [e9]
    refine ⟨fun y => absurd ((in64b (by omega)).mpr ok.1) (bz y), fun _ => ⟨fun _ => ⟨i0, by rw [e0]; exact vp_in_nI (by omega) (by decide), ?_⟩, fun y => absurd (iq 119 ok.2) (bz y)⟩⟩
    rw [ei, e0, ixn (i := 10 + 3 * p) (by omega)]
    exact ⟨by rw [(I.1.2.2 p hp).1], I.plan _ (I.1.delay hp) (fun a b z => by rw [hu_app, if_neg (fun w => z w.1)])⟩
  · refine td_entry rfl (Nat.le_of_ble_eq_true rfl) rfl (gX10_delay_0 ?_)
    rw [e9]
    exact ⟨fun _ => ⟨rfl, I, FD.rf h⟩, fun y => ⟨fun z => absurd ⟨(in64b (by omega)).mp (bnz y), iqn 119 (bnz z)⟩ nk, fun _ => ⟨rfl, I, FD.rf h⟩⟩⟩
set_option maxRecDepth 20000 in
set_option maxHeartbeats 4000000 in
theorem gX10_clear_0 {G : td_G} {d : Nat} {Post : td_P} {h : td_H} (K : Post (some (.int (h 86 9))) (hu h 86 9 0)) : td_J G d mX10_clear Post 0 [(0, .ref 85)] [] h := by
  refine td_aload_n 0 dX10_clear_0 rfl ?_
  refine gf_X10_7 rfl kp_85 dX10_clear_1 ?_
  refine td_bipush (v := 9) dX10_clear_4 (by decide) ?_
  refine td_ialdc (j := 9) kp_86 (by decide) (by unfold vp_in; decide) (by decide) dX10_clear_6 ?_
  refine td_istore_n (lv2 := [(0, .ref 85), (1, .int (h 86 9))]) dX10_clear_7 (by decide) rfl ?_
  refine td_aload_n 0 dX10_clear_8 rfl ?_
  refine gf_X10_7 rfl kp_85 dX10_clear_9 ?_
  refine td_bipush (v := 9) dX10_clear_12 (by decide) ?_
  refine td_iconst (v := 0) dX10_clear_14 (by decide) ?_
  refine td_iastc (j := 9) kp_86 (by decide) (by unfold vp_in; decide) (by decide) dX10_clear_15 ?_
  refine td_iload_n 1 dX10_clear_16 rfl ?_
  exact td_ireturn rfl dX10_clear_17 K
theorem M_clear {G : td_G} {d : Nat} {h : td_H} {s : gS} (O : OK s) (I : MI s h) : td_C G d mX10_clear [.ref 85] h (mPost (nI (s.1 1 0)) (nu s.1 1 0 0, s.2) h) := by
  refine td_entry rfl (Nat.le_of_ble_eq_true rfl) rfl (gX10_clear_0 ⟨by rw [I.1.2.1], I.plan (nu s.1 1 0 0) ⟨fun i hi => ?_, ?_, fun p hp => ?_⟩ (fun a b z => by rw [hu_app, if_neg (fun w => z w.1)])⟩)
  · rw [nu_app, if_neg (by omega), hu_app, if_neg (by omega)]; exact I.1.1 i hi
  · rw [nu_app, if_pos ⟨rfl, rfl⟩, hu_app, if_pos ⟨rfl, rfl⟩]; rfl
  · rw [nu_app, if_pos ⟨rfl, rfl⟩] at hp; omega
set_option maxRecDepth 20000 in
set_option maxHeartbeats 4000000 in
theorem gX10_count_0 {G : td_G} {d : Nat} {Post : td_P} {x1 : Int32} {h : td_H} (K : td_J G (d + 1) mX10_count Post 4 [(0, .ref 85), (1, .int x1), (2, .int 0), (3, .int 0)] [] h) : td_J G (d + 1) mX10_count Post 0 [(0, .ref 85), (1, .int x1)] [] h := by
  refine td_iconst (v := 0) dX10_count_0 (by decide) ?_
  refine td_istore_n (lv2 := [(0, .ref 85), (1, .int x1), (2, .int 0)]) dX10_count_1 (by decide) rfl ?_
  refine td_iconst (v := 0) dX10_count_2 (by decide) ?_
  refine td_istore_n (lv2 := [(0, .ref 85), (1, .int x1), (2, .int 0), (3, .int 0)]) dX10_count_3 (by decide) rfl ?_
  exact K
set_option maxRecDepth 20000 in
set_option maxHeartbeats 4000000 in
theorem gX10_count_4 {G : td_G} {d : Nat} {Post : td_P} {x1 x2 x3 : Int32} {h : td_H} (K : ((h 86 9) ≤ x3 → (Post (some (.int (if x1 = 0 then (h 86 9) else if x1 = 1 then x2 else (-1) : Int32))) h)) ∧ (¬ (h 86 9) ≤ x3 → (vp_in ((10 + (3 * x3)) + 1) 46 ∧ (td_J G (d + 1) mX10_count Post 4 [(0, .ref 85), (1, .int x1), (2, .int (x2 + (if (h 86 (ix ((10 + (3 * x3)) + 1))) = 0 then 1 else 0 : Int32))), (3, .int (x3 + 1))] [] h)))) : td_J G (d + 1) mX10_count Post 4 [(0, .ref 85), (1, .int x1), (2, .int x2), (3, .int x3)] [] h := by
  refine td_iload_n 3 dX10_count_4 rfl ?_
  refine td_aload_n 0 dX10_count_5 rfl ?_
  refine gf_X10_7 rfl kp_85 dX10_count_6 ?_
  refine td_bipush (v := 9) dX10_count_9 (by decide) ?_
  refine td_ialdc (j := 9) kp_86 (by decide) (by unfold vp_in; decide) (by decide) dX10_count_11 ?_
  obtain ⟨Kt, Kf⟩ := K
  refine td_icmp_ge (tgt := 38) dX10_count_12 (by decide) (fun q12 => ?_) (fun q12 => ?_)
  · have K := Kt q12
    refine td_iload_n 1 dX10_count_38 rfl ?_
    have KJ62 : td_J G (d + 1) mX10_count Post 62 [(0, .ref 85), (1, .int x1), (2, .int x2), (3, .int x3)] [.int (if x1 = 0 then (h 86 9) else if x1 = 1 then x2 else (-1) : Int32)] h := by
      exact td_ireturn rfl dX10_count_62 K
    refine td_if_ne (tgt := 52) dX10_count_39 (by decide) (fun q39 => ?_) (fun q39 => ?_)
    · skip
      refine td_iload_n 1 dX10_count_52 rfl ?_
      refine td_iconst (v := 1) dX10_count_53 (by decide) ?_
      refine td_icmp_ne (tgt := 61) dX10_count_54 (by decide) (fun q54 => ?_) (fun q54 => ?_)
      · skip
        refine td_iconst (v := (-1)) dX10_count_61 (by decide) ?_
        exact td_to KJ62 rfl (by rw [show (if x1 = 0 then (h 86 9) else if x1 = 1 then x2 else (-1) : Int32) = _ from (if_neg q39).trans (if_neg q54)]) rfl
      · skip
        refine td_iload_n 2 dX10_count_57 rfl ?_
        refine td_goto (tgt := 62) dX10_count_58 (by decide) ?_
        exact td_to KJ62 rfl (by rw [show (if x1 = 0 then (h 86 9) else if x1 = 1 then x2 else (-1) : Int32) = _ from (if_neg q39).trans (if_pos q54)]) rfl
    · skip
      refine td_aload_n 0 dX10_count_42 rfl ?_
      refine gf_X10_7 rfl kp_85 dX10_count_43 ?_
      refine td_bipush (v := 9) dX10_count_46 (by decide) ?_
      refine td_ialdc (j := 9) kp_86 (by decide) (by unfold vp_in; decide) (by decide) dX10_count_48 ?_
      refine td_goto (tgt := 62) dX10_count_49 (by decide) ?_
      exact td_to KJ62 rfl (by rw [show (if x1 = 0 then (h 86 9) else if x1 = 1 then x2 else (-1) : Int32) = _ from if_pos q39]) rfl
  · have K := Kf q12
    refine td_iload_n 2 dX10_count_15 rfl ?_
    refine td_aload_n 0 dX10_count_16 rfl ?_
    refine td_iload_n 3 dX10_count_17 rfl ?_
    refine td_iconst (v := 1) dX10_count_18 (by decide) ?_
    obtain ⟨e19_0, K⟩ := K
    refine cl_X10_94 rfl kp_85 dX10_count_19 (Nat.le_of_ble_eq_true rfl) (c_of x3 1 e19_0) (eR_k ?_)
    refine td_eqs (st2 := [.int (h 86 (ix ((10 + (3 * x3)) + 1))), .int x2]) rfl ?_
    have KJ30 : td_J G (d + 1) mX10_count Post 30 [(0, .ref 85), (1, .int x1), (2, .int x2), (3, .int x3)] [.int (if (h 86 (ix ((10 + (3 * x3)) + 1))) = 0 then 1 else 0 : Int32), .int x2] h := by
      refine td_iadd dX10_count_30 ?_
      refine td_istore_n (lv2 := [(0, .ref 85), (1, .int x1), (2, .int (x2 + (if (h 86 (ix ((10 + (3 * x3)) + 1))) = 0 then 1 else 0 : Int32))), (3, .int x3)]) dX10_count_31 (by decide) rfl ?_
      refine td_iinc 3 (v := x3 + 1) (lv2 := [(0, .ref 85), (1, .int x1), (2, .int (x2 + (if (h 86 (ix ((10 + (3 * x3)) + 1))) = 0 then 1 else 0 : Int32))), (3, .int (x3 + 1))]) dX10_count_32 rfl (congrArg (x3 + ·) (by decide)) (by decide) rfl ?_
      refine td_goto (tgt := 4) dX10_count_35 (by decide) ?_
      exact K
    refine td_if_ne (tgt := 29) dX10_count_22 (by decide) (fun q22 => ?_) (fun q22 => ?_)
    · skip
      refine td_iconst (v := 0) dX10_count_29 (by decide) ?_
      exact td_to KJ30 rfl (by rw [show (if (h 86 (ix ((10 + (3 * x3)) + 1))) = 0 then 1 else 0 : Int32) = _ from if_neg q22]) rfl
    · skip
      refine td_iconst (v := 1) dX10_count_25 (by decide) ?_
      refine td_goto (tgt := 30) dX10_count_26 (by decide) ?_
      exact td_to KJ30 rfl (by rw [show (if (h 86 (ix ((10 + (3 * x3)) + 1))) = 0 then 1 else 0 : Int32) = _ from if_pos q22]) rfl
theorem M_count {G : td_G} {d : Nat} {h : td_H} {s : gS} (x : Int32) (O : OK s) (I : MI s h) : td_C G (d + 1) mX10_count [.ref 85, .int x] h (mPost (aCount s.1 x) s h) := by
  have e9 : h 86 9 = nI (s.1 1 0) := I.1.2.1
  have hn := O.1.n
  refine td_entry rfl (Nat.le_of_ble_eq_true rfl) rfl (gX10_count_0 ?_)
  refine td_for (s.1 1 0) (fun i => [(0, .ref 85), (1, .int x), (2, .int (nI (fb_ct (fun p => decide (s.1 2 p = 0)) i))), (3, .int (nI i))]) (fun _ => h) rfl rfl (fun i hi ih => ?_) ?_
  · refine gX10_count_4 ?_
    have e := of_ix (p := i) (by omega) (w := 1) (by decide)
    rw [show (nI 1 : Int32) = 1 from rfl] at e
    rw [e9, e, show 10 + 3 * i + 1 = 11 + 3 * i by omega, (I.1.2.2 i hi).2.1]
    refine ⟨fun y => absurd (le_of y) (by omega), fun _ => ⟨of_in (p := i) (by omega) (w := 1) (by decide), td_to ih ?_ rfl rfl⟩⟩
    have hs := (O.1.p hi).1
    rw [nI_1, fb_ct_succ]
    by_cases z : s.1 2 i = 0
    · rw [if_pos (show nI (s.1 2 i) = 0 by rw [z]; rfl), if_pos (show decide (s.1 2 i = 0) = true by rw [z]; rfl), nI_1]
    · rw [if_neg (show ¬ nI (s.1 2 i) = 0 from fun y => z (eq_of (b := 0) y)), if_neg (show ¬ decide (s.1 2 i = 0) = true by simp [z]), show (0 : Int32) = nI 0 from rfl, nI_add]
  · refine gX10_count_4 ?_
    rw [e9]
    exact ⟨fun _ => ⟨rfl, I, FD.rf h⟩, fun y => absurd (nle_of y) (by omega)⟩
