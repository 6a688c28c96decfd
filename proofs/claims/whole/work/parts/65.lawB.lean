/-! share, open, person, told, delay, clear, count -/
set_option maxRecDepth 20000 in
set_option maxHeartbeats 4000000 in
theorem gX9_share_0 {G : td_G} {d : Nat} {Post : td_P} {x1 x2 x3 : Int32} {h : td_H} (K : ((b2i (0 ≤ x1 ∧ x1 < (h 2 0))) = 0 → (Post (some (.int (-1))) h)) ∧ (¬ (b2i (0 ≤ x1 ∧ x1 < (h 2 0))) = 0 → (((b2i (0 ≤ x2 ∧ x2 < 2)) = 0 → (Post (some (.int (-1))) h)) ∧ (¬ (b2i (0 ≤ x2 ∧ x2 < 2)) = 0 → ((¬ (b2i (0 ≤ x3 ∧ x3 < 12)) = 0 → (((h 2 0) = 3 ∨ (h 2 0) = 4) ∧ vp_in x1 4 ∧ vp_in x2 2 ∧ vp_in x3 12 ∧ (Post (some (.int (nI (share (ix (h 2 0)) (ix x1) (ix x2) (ix x3))))) h))) ∧ ((b2i (0 ≤ x3 ∧ x3 < 12)) = 0 → (Post (some (.int (-1))) h))))))) : td_J G (d + 1) mX9_share Post 0 [(0, .ref 0), (1, .int x1), (2, .int x2), (3, .int x3)] [] h := by
  refine td_iload_n 1 dX9_share_0 rfl ?_
  refine td_aload_n 0 dX9_share_1 rfl ?_
  refine gf_X9_12 rfl kp_0 dX9_share_2 ?_
  refine gf_X9_65 rfl kp_1 dX9_share_5 ?_
  refine td_iconst (v := 0) dX9_share_8 (by decide) ?_
  refine td_ialdc (j := 0) kp_2 (by decide) (by unfold vp_in; decide) (by decide) dX9_share_9 ?_
  refine cl_X9_54 rfl dX9_share_10 (Nat.le_of_ble_eq_true rfl) (c_isIn x1 (h 2 0)) (eR_k ?_)
  refine td_eqs (st2 := [.int (b2i (0 ≤ x1 ∧ x1 < (h 2 0)))]) rfl ?_
  obtain ⟨Kt, Kf⟩ := K
  refine td_if_eq (tgt := 33) dX9_share_13 (by decide) (fun q13 => ?_) (fun q13 => ?_)
  · have K := Kt q13
    refine td_iconst (v := (-1)) dX9_share_33 (by decide) ?_
    exact td_ireturn rfl dX9_share_34 K
  · have K := Kf q13
    refine td_iload_n 2 dX9_share_16 rfl ?_
    refine td_iconst (v := 2) dX9_share_17 (by decide) ?_
    refine cl_X9_54 rfl dX9_share_18 (Nat.le_of_ble_eq_true rfl) (c_isIn x2 2) (eR_k ?_)
    refine td_eqs (st2 := [.int (b2i (0 ≤ x2 ∧ x2 < 2))]) rfl ?_
    obtain ⟨Kt, Kf⟩ := K
    refine td_if_eq (tgt := 33) dX9_share_21 (by decide) (fun q21 => ?_) (fun q21 => ?_)
    · have K := Kt q21
      refine td_iconst (v := (-1)) dX9_share_33 (by decide) ?_
      exact td_ireturn rfl dX9_share_34 K
    · have K := Kf q21
      refine td_iload_n 3 dX9_share_24 rfl ?_
      refine td_bipush (v := 12) dX9_share_25 (by decide) ?_
      refine cl_X9_54 rfl dX9_share_27 (Nat.le_of_ble_eq_true rfl) (c_isIn x3 12) (eR_k ?_)
      refine td_eqs (st2 := [.int (b2i (0 ≤ x3 ∧ x3 < 12))]) rfl ?_
      obtain ⟨Kt, Kf⟩ := K
      refine td_if_ne (tgt := 35) dX9_share_30 (by decide) (fun q30 => ?_) (fun q30 => ?_)
      · have K := Kt q30
        refine td_aload_n 0 dX9_share_35 rfl ?_
        refine gf_X9_12 rfl kp_0 dX9_share_36 ?_
        refine gf_X9_65 rfl kp_1 dX9_share_39 ?_
        refine td_iconst (v := 0) dX9_share_42 (by decide) ?_
        refine td_ialdc (j := 0) kp_2 (by decide) (by unfold vp_in; decide) (by decide) dX9_share_43 ?_
        refine td_iload_n 1 dX9_share_44 rfl ?_
        refine td_iload_n 2 dX9_share_45 rfl ?_
        refine td_iload_n 3 dX9_share_46 rfl ?_
        obtain ⟨e47_0, K⟩ := K
        obtain ⟨e47_1, K⟩ := K
        obtain ⟨e47_2, K⟩ := K
        obtain ⟨e47_3, K⟩ := K
        refine cl_X9_71 rfl dX9_share_47 (Nat.le_of_ble_eq_true rfl) (c_sectors (h 2 0) x1 x2 x3 e47_0 e47_1 e47_2 e47_3) (eR_k ?_)
        refine td_eqs (st2 := [.int (nI (share (ix (h 2 0)) (ix x1) (ix x2) (ix x3)))]) rfl ?_
        exact td_ireturn rfl dX9_share_50 K
      · have K := Kf q30
        refine td_iconst (v := (-1)) dX9_share_33 (by decide) ?_
        exact td_ireturn rfl dX9_share_34 K
set_option maxRecDepth 20000 in
set_option maxHeartbeats 4000000 in
theorem gX9_open_0 {G : td_G} {d : Nat} {Post : td_P} {x1 x2 : Int32} {h : td_H} (K : ((b2i (0 ≤ x1 ∧ x1 < 2)) = 0 → (Post (some (.int (-1))) h)) ∧ (¬ (b2i (0 ≤ x1 ∧ x1 < 2)) = 0 → ((¬ (b2i (0 ≤ x2 ∧ x2 < 12)) = 0 → (((h 2 0) = 3 ∨ (h 2 0) = 4) ∧ vp_in (h 2 1) 4 ∧ vp_in x1 2 ∧ vp_in x2 12 ∧ (Post (some (.int (ms (opM (ix (h 2 0)) (ix (h 2 1)) (ix x1) (ix x2))))) h))) ∧ ((b2i (0 ≤ x2 ∧ x2 < 12)) = 0 → (Post (some (.int (-1))) h))))) : td_J G (d + 2) mX9_open Post 0 [(0, .ref 0), (1, .int x1), (2, .int x2)] [] h := by
  refine td_iload_n 1 dX9_open_0 rfl ?_
  refine td_iconst (v := 2) dX9_open_1 (by decide) ?_
  refine cl_X9_54 rfl dX9_open_2 (Nat.le_of_ble_eq_true rfl) (c_isIn x1 2) (eR_k ?_)
  refine td_eqs (st2 := [.int (b2i (0 ≤ x1 ∧ x1 < 2))]) rfl ?_
  obtain ⟨Kt, Kf⟩ := K
  refine td_if_eq (tgt := 17) dX9_open_5 (by decide) (fun q5 => ?_) (fun q5 => ?_)
  · have K := Kt q5
    refine td_iconst (v := (-1)) dX9_open_17 (by decide) ?_
    exact td_ireturn rfl dX9_open_18 K
  · have K := Kf q5
    refine td_iload_n 2 dX9_open_8 rfl ?_
    refine td_bipush (v := 12) dX9_open_9 (by decide) ?_
    refine cl_X9_54 rfl dX9_open_11 (Nat.le_of_ble_eq_true rfl) (c_isIn x2 12) (eR_k ?_)
    refine td_eqs (st2 := [.int (b2i (0 ≤ x2 ∧ x2 < 12))]) rfl ?_
    obtain ⟨Kt, Kf⟩ := K
    refine td_if_ne (tgt := 19) dX9_open_14 (by decide) (fun q14 => ?_) (fun q14 => ?_)
    · have K := Kt q14
      refine td_aload_n 0 dX9_open_19 rfl ?_
      refine gf_X9_12 rfl kp_0 dX9_open_20 ?_
      refine gf_X9_65 rfl kp_1 dX9_open_23 ?_
      refine td_iconst (v := 0) dX9_open_26 (by decide) ?_
      refine td_ialdc (j := 0) kp_2 (by decide) (by unfold vp_in; decide) (by decide) dX9_open_27 ?_
      refine td_aload_n 0 dX9_open_28 rfl ?_
      refine gf_X9_12 rfl kp_0 dX9_open_29 ?_
      refine gf_X9_65 rfl kp_1 dX9_open_32 ?_
      refine td_iconst (v := 1) dX9_open_35 (by decide) ?_
      refine td_ialdc (j := 1) kp_2 (by decide) (by unfold vp_in; decide) (by decide) dX9_open_36 ?_
      refine td_iload_n 1 dX9_open_37 rfl ?_
      refine td_iload_n 2 dX9_open_38 rfl ?_
      obtain ⟨e39_0, K⟩ := K
      obtain ⟨e39_1, K⟩ := K
      obtain ⟨e39_2, K⟩ := K
      obtain ⟨e39_3, K⟩ := K
      refine cl_X9_77 rfl dX9_open_39 (Nat.le_of_ble_eq_true rfl) (c_openParts (h 2 0) (h 2 1) x1 x2 e39_0 e39_1 e39_2 e39_3) (eR_k ?_)
      refine td_eqs (st2 := [.int (ms (opM (ix (h 2 0)) (ix (h 2 1)) (ix x1) (ix x2)))]) rfl ?_
      exact td_ireturn rfl dX9_open_42 K
    · have K := Kf q14
      refine td_iconst (v := (-1)) dX9_open_17 (by decide) ?_
      exact td_ireturn rfl dX9_open_18 K
set_option maxRecDepth 20000 in
set_option maxHeartbeats 4000000 in
theorem gX9_person_0 {G : td_G} {d : Nat} {Post : td_P} {n : Nat} {x1 x2 x3 : Int32} {h : td_H} (K : ((b2i (0 ≤ x1 ∧ x1 < 120)) = 0 → (Post (some (.int (-1))) h)) ∧ (¬ (b2i (0 ≤ x1 ∧ x1 < 120)) = 0 → (((b2i (0 ≤ x2 ∧ x2 < 2)) = 0 → (Post (some (.int (-1))) h)) ∧ (¬ (b2i (0 ≤ x2 ∧ x2 < 2)) = 0 → ((¬ (b2i (0 ≤ x3 ∧ x3 < 6)) = 0 → (((h 1 4) < 12 → (h (1) 4 = nI n ∧ n < 12 ∧ (Post (some (.int (((fgH (addH h (1) n x1 x2 x3)) 1 4) - 1))) (fgH (addH h (1) n x1 x2 x3))))) ∧ (¬ (h 1 4) < 12 → (Post (some (.int (-3))) h)))) ∧ ((b2i (0 ≤ x3 ∧ x3 < 6)) = 0 → (Post (some (.int (-1))) h))))))) : td_J G (d + 2) mX9_person Post 0 [(0, .ref 0), (1, .int x1), (2, .int x2), (3, .int x3)] [] h := by
  refine td_iload_n 1 dX9_person_0 rfl ?_
  refine td_bipush (v := 120) dX9_person_1 (by decide) ?_
  refine cl_X9_54 rfl dX9_person_3 (Nat.le_of_ble_eq_true rfl) (c_isIn x1 120) (eR_k ?_)
  refine td_eqs (st2 := [.int (b2i (0 ≤ x1 ∧ x1 < 120))]) rfl ?_
  obtain ⟨Kt, Kf⟩ := K
  refine td_if_eq (tgt := 26) dX9_person_6 (by decide) (fun q6 => ?_) (fun q6 => ?_)
  · have K := Kt q6
    refine td_iconst (v := (-1)) dX9_person_26 (by decide) ?_
    exact td_ireturn rfl dX9_person_27 K
  · have K := Kf q6
    refine td_iload_n 2 dX9_person_9 rfl ?_
    refine td_iconst (v := 2) dX9_person_10 (by decide) ?_
    refine cl_X9_54 rfl dX9_person_11 (Nat.le_of_ble_eq_true rfl) (c_isIn x2 2) (eR_k ?_)
    refine td_eqs (st2 := [.int (b2i (0 ≤ x2 ∧ x2 < 2))]) rfl ?_
    obtain ⟨Kt, Kf⟩ := K
    refine td_if_eq (tgt := 26) dX9_person_14 (by decide) (fun q14 => ?_) (fun q14 => ?_)
    · have K := Kt q14
      refine td_iconst (v := (-1)) dX9_person_26 (by decide) ?_
      exact td_ireturn rfl dX9_person_27 K
    · have K := Kf q14
      refine td_iload_n 3 dX9_person_17 rfl ?_
      refine td_bipush (v := 6) dX9_person_18 (by decide) ?_
      refine cl_X9_54 rfl dX9_person_20 (Nat.le_of_ble_eq_true rfl) (c_isIn x3 6) (eR_k ?_)
      refine td_eqs (st2 := [.int (b2i (0 ≤ x3 ∧ x3 < 6))]) rfl ?_
      obtain ⟨Kt, Kf⟩ := K
      refine td_if_ne (tgt := 28) dX9_person_23 (by decide) (fun q23 => ?_) (fun q23 => ?_)
      · have K := Kt q23
        refine td_aload_n 0 dX9_person_28 rfl ?_
        refine gf_X9_12 rfl kp_0 dX9_person_29 ?_
        refine gf_X9_80 rfl kp_1 dX9_person_32 ?_
        refine td_bipush (v := 12) dX9_person_35 (by decide) ?_
        obtain ⟨Kt, Kf⟩ := K
        refine td_icmp_lt (tgt := 43) dX9_person_37 (by decide) (fun q37 => ?_) (fun q37 => ?_)
        · have K := Kt q37
          refine td_aload_n 0 dX9_person_43 rfl ?_
          refine gf_X9_12 rfl kp_0 dX9_person_44 ?_
          refine td_iload_n 1 dX9_person_47 rfl ?_
          refine td_iload_n 2 dX9_person_48 rfl ?_
          refine td_iload_n 3 dX9_person_49 rfl ?_
          obtain ⟨e50_0, K⟩ := K
          obtain ⟨e50_1, K⟩ := K
          refine cl_X9_84 rfl kp_1 dX9_person_50 (Nat.le_of_ble_eq_true rfl) (c_P_add kp_1 n x1 x2 x3 e50_0 e50_1) (eV_k ?_)
          refine td_eqs (st2 := []) rfl ?_
          refine td_aload_n 0 dX9_person_53 rfl ?_
          refine cl_X9_68 rfl kp_0 dX9_person_54 (Nat.le_of_ble_eq_true rfl) (c_X_forget) (eV_k ?_)
          refine td_eqs (st2 := []) rfl ?_
          refine td_aload_n 0 dX9_person_57 rfl ?_
          refine gf_X9_12 rfl kp_0 dX9_person_58 ?_
          refine gf_X9_80 rfl kp_1 dX9_person_61 ?_
          refine td_iconst (v := 1) dX9_person_64 (by decide) ?_
          refine td_isub dX9_person_65 ?_
          exact td_ireturn rfl dX9_person_66 K
        · have K := Kf q37
          refine td_bipush (v := (-3)) dX9_person_40 (by decide) ?_
          exact td_ireturn rfl dX9_person_42 K
      · have K := Kf q23
        refine td_iconst (v := (-1)) dX9_person_26 (by decide) ?_
        exact td_ireturn rfl dX9_person_27 K
set_option maxRecDepth 20000 in
set_option maxHeartbeats 4000000 in
theorem gX9_told_0 {G : td_G} {d : Nat} {Post : td_P} {c : nH} {x1 x2 : Int32} {h : td_H} (K : (¬ (b2i (0 ≤ x1 ∧ x1 < h 1 4)) = 0 → ((x2 = 0 → (vp_in x1 12 ∧ (Post (some (.int (h 3 (ix x1)))) h))) ∧ (x2 = 1 → (vp_in x1 12 ∧ (Post (some (.int (h 4 (ix x1)))) h))) ∧ (x2 = 2 → (vp_in x1 12 ∧ (Post (some (.int (h 5 (ix x1)))) h))) ∧ (x2 = 3 → (dP c (1) h ∧ vp_in x1 12 ∧ ix x1 < c 1 0 ∧ (Post (some (.int (nI (szk (c 3 (ix x1)))))) h))) ∧ (x2 = 4 → (dP c (1) h ∧ vp_in x1 12 ∧ ix x1 < c 1 0 ∧ (Post (some (.int (nI (puk (c 3 (ix x1)))))) h))) ∧ (¬ x2 = 0 ∧ ¬ x2 = 1 ∧ ¬ x2 = 2 ∧ ¬ x2 = 3 ∧ ¬ x2 = 4 → (Post (some (.int (-1))) h)))) ∧ ((b2i (0 ≤ x1 ∧ x1 < h 1 4)) = 0 → (Post (some (.int (-1))) h))) : td_J G (d + 2) mX9_told Post 0 [(0, .ref 0), (1, .int x1), (2, .int x2)] [] h := by
  refine td_aload_n 0 dX9_told_0 rfl ?_
  refine gf_X9_12 rfl kp_0 dX9_told_1 ?_
  refine td_iload_n 1 dX9_told_4 rfl ?_
  refine cl_X9_88 rfl kp_1 dX9_told_5 (Nat.le_of_ble_eq_true rfl) (c_P_has kp_1 x1) (eR_k ?_)
  refine td_eqs (st2 := [.int (b2i (0 ≤ x1 ∧ x1 < h 1 4))]) rfl ?_
  obtain ⟨Kt, Kf⟩ := K
  refine td_if_ne (tgt := 13) dX9_told_8 (by decide) (fun q8 => ?_) (fun q8 => ?_)
  · have K := Kt q8
    refine td_iload_n 2 dX9_told_13 rfl ?_
    obtain ⟨K0, K⟩ := K
    by_cases q0 : x2 = 0
    · have K := K0 q0
      refine td_eqs (congrArg (fun z => Value.int z :: []) q0.symm) ?_
      refine td_tsin (tgt := 48) dX9_told_14 (by decide) (by decide) rfl (by decide) ?_
      refine td_aload_n 0 dX9_told_48 rfl ?_
      refine gf_X9_12 rfl kp_0 dX9_told_49 ?_
      refine gf_X9_92 rfl kp_1 dX9_told_52 ?_
      refine td_iload_n 1 dX9_told_55 rfl ?_
      obtain ⟨e56, K⟩ := K
      refine td_ialdc (j := (ix x1)) kp_3 (by decide) e56 rfl dX9_told_56 ?_
      exact td_ireturn rfl dX9_told_57 K
    obtain ⟨K1, K⟩ := K
    by_cases q1 : x2 = 1
    · have K := K1 q1
      refine td_eqs (congrArg (fun z => Value.int z :: []) q1.symm) ?_
      refine td_tsin (tgt := 58) dX9_told_14 (by decide) (by decide) rfl (by decide) ?_
      refine td_aload_n 0 dX9_told_58 rfl ?_
      refine gf_X9_12 rfl kp_0 dX9_told_59 ?_
      refine gf_X9_95 rfl kp_1 dX9_told_62 ?_
      refine td_iload_n 1 dX9_told_65 rfl ?_
      obtain ⟨e66, K⟩ := K
      refine td_ialdc (j := (ix x1)) kp_4 (by decide) e66 rfl dX9_told_66 ?_
      exact td_ireturn rfl dX9_told_67 K
    obtain ⟨K2, K⟩ := K
    by_cases q2 : x2 = 2
    · have K := K2 q2
      refine td_eqs (congrArg (fun z => Value.int z :: []) q2.symm) ?_
      refine td_tsin (tgt := 68) dX9_told_14 (by decide) (by decide) rfl (by decide) ?_
      refine td_aload_n 0 dX9_told_68 rfl ?_
      refine gf_X9_12 rfl kp_0 dX9_told_69 ?_
      refine gf_X9_98 rfl kp_1 dX9_told_72 ?_
      refine td_iload_n 1 dX9_told_75 rfl ?_
      obtain ⟨e76, K⟩ := K
      refine td_ialdc (j := (ix x1)) kp_5 (by decide) e76 rfl dX9_told_76 ?_
      exact td_ireturn rfl dX9_told_77 K
    obtain ⟨K3, K⟩ := K
    by_cases q3 : x2 = 3
    · have K := K3 q3
      refine td_eqs (congrArg (fun z => Value.int z :: []) q3.symm) ?_
      refine td_tsin (tgt := 78) dX9_told_14 (by decide) (by decide) rfl (by decide) ?_
      refine td_aload_n 0 dX9_told_78 rfl ?_
      refine gf_X9_12 rfl kp_0 dX9_told_79 ?_
      refine td_iload_n 1 dX9_told_82 rfl ?_
      obtain ⟨e83_0, K⟩ := K
      obtain ⟨e83_1, K⟩ := K
      obtain ⟨e83_2, K⟩ := K
      refine cl_X9_101 rfl kp_1 dX9_told_83 (Nat.le_of_ble_eq_true rfl) (c_P_sizeOf kp_1 c x1 e83_0 e83_1 e83_2) (eR_k ?_)
      refine td_eqs (st2 := [.int (nI (szk (c 3 (ix x1))))]) rfl ?_
      exact td_ireturn rfl dX9_told_86 K
    obtain ⟨K4, K⟩ := K
    by_cases q4 : x2 = 4
    · have K := K4 q4
      refine td_eqs (congrArg (fun z => Value.int z :: []) q4.symm) ?_
      refine td_tsin (tgt := 87) dX9_told_14 (by decide) (by decide) rfl (by decide) ?_
      refine td_aload_n 0 dX9_told_87 rfl ?_
      refine gf_X9_12 rfl kp_0 dX9_told_88 ?_
      refine td_iload_n 1 dX9_told_91 rfl ?_
      obtain ⟨e92_0, K⟩ := K
      obtain ⟨e92_1, K⟩ := K
      obtain ⟨e92_2, K⟩ := K
      refine cl_X9_105 rfl kp_1 dX9_told_92 (Nat.le_of_ble_eq_true rfl) (c_P_pushOf kp_1 c x1 e92_0 e92_1 e92_2) (eR_k ?_)
      refine td_eqs (st2 := [.int (nI (puk (c 3 (ix x1))))]) rfl ?_
      exact td_ireturn rfl dX9_told_95 K
    have K := K ⟨q0, q1, q2, q3, q4⟩
    refine td_tsout (tgt := 96) dX9_told_14 (by have z : ∀ n : Nat, n < 16 → ¬ x2 = nI n → x2.toInt ≠ n := fun n hn e g => e (td_i32 g hn); have z0 := z 0 (by decide) q0; have z1 := z 1 (by decide) q1; have z2 := z 2 (by decide) q2; have z3 := z 3 (by decide) q3; have z4 := z 4 (by decide) q4; omega) (by decide) ?_
    refine td_iconst (v := (-1)) dX9_told_96 (by decide) ?_
    exact td_ireturn rfl dX9_told_97 K
  · have K := Kf q8
    refine td_iconst (v := (-1)) dX9_told_11 (by decide) ?_
    exact td_ireturn rfl dX9_told_12 K
set_option maxRecDepth 20000 in
set_option maxHeartbeats 4000000 in
theorem gX9_delay_0 {G : td_G} {d : Nat} {Post : td_P} {x1 x2 : Int32} {h : td_H} (K : ((b2i (0 ≤ x1 ∧ x1 < h 1 4)) = 0 → (Post (some (.int (-1))) h)) ∧ (¬ (b2i (0 ≤ x1 ∧ x1 < h 1 4)) = 0 → ((¬ (b2i (0 ≤ x2 ∧ x2 < 120)) = 0 → (vp_in x1 12 ∧ (Post (some (.int (h 3 (ix x1)))) (fgH (hu h 3 (ix x1) x2))))) ∧ ((b2i (0 ≤ x2 ∧ x2 < 120)) = 0 → (Post (some (.int (-1))) h))))) : td_J G (d + 2) mX9_delay Post 0 [(0, .ref 0), (1, .int x1), (2, .int x2)] [] h := by
  refine td_aload_n 0 dX9_delay_0 rfl ?_
  refine gf_X9_12 rfl kp_0 dX9_delay_1 ?_
  refine td_iload_n 1 dX9_delay_4 rfl ?_
  refine cl_X9_88 rfl kp_1 dX9_delay_5 (Nat.le_of_ble_eq_true rfl) (c_P_has kp_1 x1) (eR_k ?_)
  refine td_eqs (st2 := [.int (b2i (0 ≤ x1 ∧ x1 < h 1 4))]) rfl ?_
  obtain ⟨Kt, Kf⟩ := K
  refine td_if_eq (tgt := 20) dX9_delay_8 (by decide) (fun q8 => ?_) (fun q8 => ?_)
  · have K := Kt q8
    refine td_iconst (v := (-1)) dX9_delay_20 (by decide) ?_
    exact td_ireturn rfl dX9_delay_21 K
  · have K := Kf q8
    refine td_iload_n 2 dX9_delay_11 rfl ?_
    refine td_bipush (v := 120) dX9_delay_12 (by decide) ?_
    refine cl_X9_54 rfl dX9_delay_14 (Nat.le_of_ble_eq_true rfl) (c_isIn x2 120) (eR_k ?_)
    refine td_eqs (st2 := [.int (b2i (0 ≤ x2 ∧ x2 < 120))]) rfl ?_
    obtain ⟨Kt, Kf⟩ := K
    refine td_if_ne (tgt := 22) dX9_delay_17 (by decide) (fun q17 => ?_) (fun q17 => ?_)
    · have K := Kt q17
      refine td_aload_n 0 dX9_delay_22 rfl ?_
      refine gf_X9_12 rfl kp_0 dX9_delay_23 ?_
      refine gf_X9_92 rfl kp_1 dX9_delay_26 ?_
      refine td_iload_n 1 dX9_delay_29 rfl ?_
      obtain ⟨e30, K⟩ := K
      refine td_ialdc (j := (ix x1)) kp_3 (by decide) e30 rfl dX9_delay_30 ?_
      refine td_istore_n (lv2 := [(0, .ref 0), (1, .int x1), (2, .int x2), (3, .int (h 3 (ix x1)))]) dX9_delay_31 (by decide) rfl ?_
      refine td_aload_n 0 dX9_delay_32 rfl ?_
      refine gf_X9_12 rfl kp_0 dX9_delay_33 ?_
      refine gf_X9_92 rfl kp_1 dX9_delay_36 ?_
      refine td_iload_n 1 dX9_delay_39 rfl ?_
      refine td_iload_n 2 dX9_delay_40 rfl ?_
      refine td_iastc (j := (ix x1)) kp_3 (by decide) e30 rfl dX9_delay_41 ?_
      refine td_aload_n 0 dX9_delay_42 rfl ?_
      refine cl_X9_68 rfl kp_0 dX9_delay_43 (Nat.le_of_ble_eq_true rfl) (c_X_forget) (eV_k ?_)
      refine td_eqs (st2 := []) rfl ?_
      refine td_iload_n 3 dX9_delay_46 rfl ?_
      exact td_ireturn rfl dX9_delay_47 K
    · have K := Kf q17
      refine td_iconst (v := (-1)) dX9_delay_20 (by decide) ?_
      exact td_ireturn rfl dX9_delay_21 K
set_option maxRecDepth 20000 in
set_option maxHeartbeats 4000000 in
theorem gX9_clear_0 {G : td_G} {d : Nat} {Post : td_P} {h : td_H} (K : Post (some (.int (h 1 4))) (fgH (hu h 1 4 0))) : td_J G (d + 2) mX9_clear Post 0 [(0, .ref 0)] [] h := by
  refine td_aload_n 0 dX9_clear_0 rfl ?_
  refine gf_X9_12 rfl kp_0 dX9_clear_1 ?_
  refine gf_X9_80 rfl kp_1 dX9_clear_4 ?_
  refine td_istore_n (lv2 := [(0, .ref 0), (1, .int (h 1 4))]) dX9_clear_7 (by decide) rfl ?_
  refine td_aload_n 0 dX9_clear_8 rfl ?_
  refine gf_X9_12 rfl kp_0 dX9_clear_9 ?_
  refine td_iconst (v := 0) dX9_clear_12 (by decide) ?_
  refine pf_X9_80 rfl kp_1 dX9_clear_13 ?_
  refine td_aload_n 0 dX9_clear_16 rfl ?_
  refine cl_X9_68 rfl kp_0 dX9_clear_17 (Nat.le_of_ble_eq_true rfl) (c_X_forget) (eV_k ?_)
  refine td_eqs (st2 := []) rfl ?_
  refine td_iload_n 1 dX9_clear_20 rfl ?_
  exact td_ireturn rfl dX9_clear_21 K
set_option maxRecDepth 20000 in
set_option maxHeartbeats 4000000 in
theorem gX9_count_0 {G : td_G} {d : Nat} {Post : td_P} {c : nH} {x1 : Int32} {h : td_H} (K : (x1 = 0 → (Post (some (.int (h 1 4))) h)) ∧ (x1 = 1 → (dP c (1) h ∧ (Post (some (.int (nI (fb_ct (fun p => decide (c 2 p = 0)) (c 1 0))))) h))) ∧ (¬ x1 = 0 ∧ ¬ x1 = 1 → (Post (some (.int (-1))) h))) : td_J G (d + 1) mX9_count Post 0 [(0, .ref 0), (1, .int x1)] [] h := by
  refine td_iload_n 1 dX9_count_0 rfl ?_
  obtain ⟨K0, K⟩ := K
  by_cases q0 : x1 = 0
  · have K := K0 q0
    refine td_eqs (congrArg (fun z => Value.int z :: []) q0.symm) ?_
    refine td_lsw (tgt := 28) dX9_count_1 rfl rfl (by decide) ?_
    refine td_aload_n 0 dX9_count_28 rfl ?_
    refine gf_X9_12 rfl kp_0 dX9_count_29 ?_
    refine gf_X9_80 rfl kp_1 dX9_count_32 ?_
    exact td_ireturn rfl dX9_count_35 K
  obtain ⟨K1, K⟩ := K
  by_cases q1 : x1 = 1
  · have K := K1 q1
    refine td_eqs (congrArg (fun z => Value.int z :: []) q1.symm) ?_
    refine td_lsw (tgt := 36) dX9_count_1 rfl rfl (by decide) ?_
    refine td_aload_n 0 dX9_count_36 rfl ?_
    refine gf_X9_12 rfl kp_0 dX9_count_37 ?_
    obtain ⟨e40_0, K⟩ := K
    refine cl_X9_197 rfl kp_1 dX9_count_40 (Nat.le_of_ble_eq_true rfl) (c_P_street kp_1 c e40_0) (eR_k ?_)
    refine td_eqs (st2 := [.int (nI (fb_ct (fun p => decide (c 2 p = 0)) (c 1 0)))]) rfl ?_
    exact td_ireturn rfl dX9_count_43 K
  have K := K ⟨q0, q1⟩
  refine td_lsw (tgt := 44) dX9_count_1 rfl (td_lso q0 q1) (by decide) ?_
  refine td_iconst (v := (-1)) dX9_count_44 (by decide) ?_
  exact td_ireturn rfl dX9_count_45 K
set_option maxRecDepth 20000 in
set_option maxHeartbeats 4000000 in
theorem gX9_type_0 {G : td_G} {d : Nat} {Post : td_P} {L : Nat} {f : Nat → Nat} {x3 : Int32} {w1 : Int64} {h : td_H} (K : (x3 < 1 → (Post (some (.int (-1))) h)) ∧ (¬ x3 < 1 → ((8 < x3 → (Post (some (.int (-1))) h)) ∧ (¬ 8 < x3 → (vp_in x3 9 ∧ ((¬ (b2i (allB (plW w1) (ix x3) = true)) = 0 → ((((h 11 4) + x3) ≤ 80 → (tD L f h ∧ L + ix x3 ≤ 80 ∧ allB (plW w1) (ix x3) = true ∧ (∀ h44 : td_H, ((∀ a b, ¬ ((a = 11 ∧ b = 4) ∨ a = 12) → h44 a b = h a b) ∧ tD (L + ix x3) (apF L f w1 (ix x3)) h44) → (Post (some (.int (h44 11 4))) h44)))) ∧ (¬ ((h 11 4) + x3) ≤ 80 → (Post (some (.int (-3))) h)))) ∧ ((b2i (allB (plW w1) (ix x3) = true)) = 0 → (Post (some (.int (-1))) h)))))))) : td_J G (d + 2) mX9_type Post 0 [(0, .ref 0), (1, .long w1), (3, .int x3)] [] h := by
  refine td_iload_n 2 dX9_type_0 rfl ?_
  refine td_iconst (v := 1) dX9_type_1 (by decide) ?_
  obtain ⟨Kt, Kf⟩ := K
  refine td_icmp_lt (tgt := 19) dX9_type_2 (by decide) (fun q2 => ?_) (fun q2 => ?_)
  · have K := Kt q2
    refine td_iconst (v := (-1)) dX9_type_19 (by decide) ?_
    exact td_ireturn rfl dX9_type_20 K
  · have K := Kf q2
    refine td_iload_n 2 dX9_type_5 rfl ?_
    refine td_bipush (v := 8) dX9_type_6 (by decide) ?_
    obtain ⟨Kt, Kf⟩ := K
    refine td_icmp_gt (tgt := 19) dX9_type_8 (by decide) (fun q8 => ?_) (fun q8 => ?_)
    · have K := Kt q8
      refine td_iconst (v := (-1)) dX9_type_19 (by decide) ?_
      exact td_ireturn rfl dX9_type_20 K
    · have K := Kf q8
      refine td_lload_n 1 dX9_type_11 rfl ?_
      refine td_iload_n 2 dX9_type_12 rfl ?_
      obtain ⟨e13_0, K⟩ := K
      refine cl_X9_108 rfl dX9_type_13 (Nat.le_of_ble_eq_true rfl) (c_T_plain w1 x3 e13_0) (eR_k ?_)
      refine td_eqs (st2 := [.int (b2i (allB (plW w1) (ix x3) = true))]) rfl ?_
      obtain ⟨Kt, Kf⟩ := K
      refine td_if_ne (tgt := 21) dX9_type_16 (by decide) (fun q16 => ?_) (fun q16 => ?_)
      · have K := Kt q16
        refine td_aload_n 0 dX9_type_21 rfl ?_
        refine gf_X9_22 rfl kp_0 dX9_type_22 ?_
        refine gf_X9_112 rfl kp_11 dX9_type_25 ?_
        refine td_iload_n 2 dX9_type_28 rfl ?_
        refine td_iadd dX9_type_29 ?_
        refine td_bipush (v := 80) dX9_type_30 (by decide) ?_
        obtain ⟨Kt, Kf⟩ := K
        refine td_icmp_le (tgt := 38) dX9_type_32 (by decide) (fun q32 => ?_) (fun q32 => ?_)
        · have K := Kt q32
          refine td_aload_n 0 dX9_type_38 rfl ?_
          refine gf_X9_22 rfl kp_0 dX9_type_39 ?_
          refine td_lload_n 1 dX9_type_42 rfl ?_
          refine td_iload_n 2 dX9_type_43 rfl ?_
          obtain ⟨e44_0, K⟩ := K
          obtain ⟨e44_2, K⟩ := K
          obtain ⟨e44_3, K⟩ := K
          refine cl_X9_115 rfl kp_11 dX9_type_44 (Nat.le_of_ble_eq_true rfl) (c_T_append L f w1 x3 e44_0 e13_0 e44_2 e44_3) ?_
          rintro _ h44 ⟨rfl, f44⟩
          have K := K h44 f44
          refine td_eqs (st2 := []) rfl ?_
          refine td_aload_n 0 dX9_type_47 rfl ?_
          refine gf_X9_22 rfl kp_0 dX9_type_48 ?_
          refine gf_X9_112 rfl kp_11 dX9_type_51 ?_
          exact td_ireturn rfl dX9_type_54 K
        · have K := Kf q32
          refine td_bipush (v := (-3)) dX9_type_35 (by decide) ?_
          exact td_ireturn rfl dX9_type_37 K
      · have K := Kf q16
        refine td_iconst (v := (-1)) dX9_type_19 (by decide) ?_
        exact td_ireturn rfl dX9_type_20 K
set_option maxRecDepth 20000 in
set_option maxHeartbeats 4000000 in
theorem gX9_people_0 {G : td_G} {d : Nat} {Post : td_P} {L : Nat} {f : Nat → Nat} {h : td_H} (K : tD L f h ∧ (∀ h4 : td_H, (FrT h h4 ∧ ((rdE L f 8 0).1 = 0 → h4 11 5 = nI (rdE L f 8 0).2 ∧ (rdE L f 8 0).2 ≤ 8 ∧ rdA L f (rdE L f 8 0).2 h4)) → (((rdI (rdE L f 8 0)) = 0 → (((((hu h4 11 4 0) 1 4) + ((hu h4 11 4 0) 11 5)) ≤ 12 → td_J G (d + 6) mX9_people Post 47 [(0, .ref 0), (1, .int (rdI (rdE L f 8 0))), (2, .int 0)] [] (hu h4 11 4 0)) ∧ (¬ (((hu h4 11 4 0) 1 4) + ((hu h4 11 4 0) 11 5)) ≤ 12 → (Post (some (.int (-3))) (hu h4 11 4 0))))) ∧ (¬ (rdI (rdE L f 8 0)) = 0 → (Post (some (.int (rdI (rdE L f 8 0)))) (hu h4 11 4 0)))))) : td_J G (d + 6) mX9_people Post 0 [(0, .ref 0)] [] h := by
  refine td_aload_n 0 dX9_people_0 rfl ?_
  refine gf_X9_22 rfl kp_0 dX9_people_1 ?_
  obtain ⟨e4_0, K⟩ := K
  refine cl_X9_119 rfl kp_11 dX9_people_4 (Nat.le_of_ble_eq_true rfl) (c_T_read L f e4_0) ?_
  rintro _ h4 ⟨rfl, f4⟩
  have K := K h4 f4
  refine td_eqs (st2 := [.int (rdI (rdE L f 8 0))]) rfl ?_
  refine td_istore_n (lv2 := [(0, .ref 0), (1, .int (rdI (rdE L f 8 0)))]) dX9_people_7 (by decide) rfl ?_
  refine td_aload_n 0 dX9_people_8 rfl ?_
  refine gf_X9_22 rfl kp_0 dX9_people_9 ?_
  refine td_iconst (v := 0) dX9_people_12 (by decide) ?_
  refine pf_X9_112 rfl kp_11 dX9_people_13 ?_
  refine td_iload_n 1 dX9_people_16 rfl ?_
  obtain ⟨Kt, Kf⟩ := K
  refine td_if_eq (tgt := 22) dX9_people_17 (by decide) (fun q17 => ?_) (fun q17 => ?_)
  · have K := Kt q17
    refine td_aload_n 0 dX9_people_22 rfl ?_
    refine gf_X9_12 rfl kp_0 dX9_people_23 ?_
    refine gf_X9_80 rfl kp_1 dX9_people_26 ?_
    refine td_aload_n 0 dX9_people_29 rfl ?_
    refine gf_X9_22 rfl kp_0 dX9_people_30 ?_
    refine gf_X9_123 rfl kp_11 dX9_people_33 ?_
    refine td_iadd dX9_people_36 ?_
    refine td_bipush (v := 12) dX9_people_37 (by decide) ?_
    obtain ⟨Kt, Kf⟩ := K
    refine td_icmp_le (tgt := 45) dX9_people_39 (by decide) (fun q39 => ?_) (fun q39 => ?_)
    · have K := Kt q39
      refine td_iconst (v := 0) dX9_people_45 (by decide) ?_
      refine td_istore_n (lv2 := [(0, .ref 0), (1, .int (rdI (rdE L f 8 0))), (2, .int 0)]) dX9_people_46 (by decide) rfl ?_
      exact K
    · have K := Kf q39
      refine td_bipush (v := (-3)) dX9_people_42 (by decide) ?_
      exact td_ireturn rfl dX9_people_44 K
  · have K := Kf q17
    refine td_iload_n 1 dX9_people_20 rfl ?_
    exact td_ireturn rfl dX9_people_21 K
set_option maxRecDepth 20000 in
set_option maxHeartbeats 4000000 in
theorem gX9_people_47 {G : td_G} {d : Nat} {Post : td_P} {n : Nat} {x1 x2 : Int32} {h : td_H} (K : ((h 11 5) ≤ x2 → (Post (some (.int ((fgH h) 11 5))) (fgH h))) ∧ (¬ (h 11 5) ≤ x2 → ((8 ≤ x2 → (Post (some (.int ((fgH h) 11 5))) (fgH h))) ∧ (¬ 8 ≤ x2 → (vp_in x2 8 ∧ (h (1) 4 = nI n ∧ n < 12 ∧ (td_J G (d + 6) mX9_people Post 47 [(0, .ref 0), (1, .int x1), (2, .int (x2 + 1))] [] (addH h (1) n (h 13 (ix x2)) (h 14 (ix x2)) (h 15 (ix x2)))))))))) : td_J G (d + 6) mX9_people Post 47 [(0, .ref 0), (1, .int x1), (2, .int x2)] [] h := by
  refine td_iload_n 2 dX9_people_47 rfl ?_
  refine td_aload_n 0 dX9_people_48 rfl ?_
  refine gf_X9_22 rfl kp_0 dX9_people_49 ?_
  refine gf_X9_123 rfl kp_11 dX9_people_52 ?_
  obtain ⟨Kt, Kf⟩ := K
  refine td_icmp_ge (tgt := 104) dX9_people_55 (by decide) (fun q55 => ?_) (fun q55 => ?_)
  · have K := Kt q55
    refine td_aload_n 0 dX9_people_104 rfl ?_
    refine cl_X9_68 rfl kp_0 dX9_people_105 (Nat.le_of_ble_eq_true rfl) (c_X_forget) (eV_k ?_)
    refine td_eqs (st2 := []) rfl ?_
    refine td_aload_n 0 dX9_people_108 rfl ?_
    refine gf_X9_22 rfl kp_0 dX9_people_109 ?_
    refine gf_X9_123 rfl kp_11 dX9_people_112 ?_
    exact td_ireturn rfl dX9_people_115 K
  · have K := Kf q55
    refine td_iload_n 2 dX9_people_58 rfl ?_
    refine td_bipush (v := 8) dX9_people_59 (by decide) ?_
    obtain ⟨Kt, Kf⟩ := K
    refine td_icmp_ge (tgt := 104) dX9_people_61 (by decide) (fun q61 => ?_) (fun q61 => ?_)
    · have K := Kt q61
      refine td_aload_n 0 dX9_people_104 rfl ?_
      refine cl_X9_68 rfl kp_0 dX9_people_105 (Nat.le_of_ble_eq_true rfl) (c_X_forget) (eV_k ?_)
      refine td_eqs (st2 := []) rfl ?_
      refine td_aload_n 0 dX9_people_108 rfl ?_
      refine gf_X9_22 rfl kp_0 dX9_people_109 ?_
      refine gf_X9_123 rfl kp_11 dX9_people_112 ?_
      exact td_ireturn rfl dX9_people_115 K
    · have K := Kf q61
      refine td_aload_n 0 dX9_people_64 rfl ?_
      refine gf_X9_12 rfl kp_0 dX9_people_65 ?_
      refine td_aload_n 0 dX9_people_68 rfl ?_
      refine gf_X9_22 rfl kp_0 dX9_people_69 ?_
      refine gf_X9_126 rfl kp_11 dX9_people_72 ?_
      refine td_iload_n 2 dX9_people_75 rfl ?_
      obtain ⟨e76, K⟩ := K
      refine td_ialdc (j := (ix x2)) kp_13 (by decide) e76 rfl dX9_people_76 ?_
      refine td_aload_n 0 dX9_people_77 rfl ?_
      refine gf_X9_22 rfl kp_0 dX9_people_78 ?_
      refine gf_X9_127 rfl kp_11 dX9_people_81 ?_
      refine td_iload_n 2 dX9_people_84 rfl ?_
      refine td_ialdc (j := (ix x2)) kp_14 (by decide) e76 rfl dX9_people_85 ?_
      refine td_aload_n 0 dX9_people_86 rfl ?_
      refine gf_X9_22 rfl kp_0 dX9_people_87 ?_
      refine gf_X9_128 rfl kp_11 dX9_people_90 ?_
      refine td_iload_n 2 dX9_people_93 rfl ?_
      refine td_ialdc (j := (ix x2)) kp_15 (by decide) e76 rfl dX9_people_94 ?_
      obtain ⟨e95_0, K⟩ := K
      obtain ⟨e95_1, K⟩ := K
      refine cl_X9_84 rfl kp_1 dX9_people_95 (Nat.le_of_ble_eq_true rfl) (c_P_add kp_1 n (h 13 (ix x2)) (h 14 (ix x2)) (h 15 (ix x2)) e95_0 e95_1) (eV_k ?_)
      refine td_eqs (st2 := []) rfl ?_
      refine td_iinc 2 (v := x2 + 1) (lv2 := [(0, .ref 0), (1, .int x1), (2, .int (x2 + 1))]) dX9_people_98 rfl (congrArg (x2 + ·) (by decide)) (by decide) rfl ?_
      refine td_goto (tgt := 47) dX9_people_101 (by decide) ?_
      exact K
def okShare (g : nH) (x1 x2 x3 : Int32) : Prop := (0 ≤ x1 ∧ x1 < nI (g 0 0)) ∧ (0 ≤ x2 ∧ x2 < 2) ∧ (0 ≤ x3 ∧ x3 < 12)
theorem D_share {G : td_G} {d : Nat} {h : td_H} {s : gS} (x1 x2 x3 : Int32) (I : DI s h) : (okShare s.1 x1 x2 x3 → td_C G (d + 1) mX9_share [.ref 0, .int x1, .int x2, .int x3] h (dPost (nI (share (s.1 0 0) (ix x1) (ix x2) (ix x3))) s h)) ∧ (¬ okShare s.1 x1 x2 x3 → td_C G (d + 1) mX9_share [.ref 0, .int x1, .int x2, .int x3] h (dPost (-1) s h)) := by
  have bad : (some (Value.int (-1)) = some (.int (-1)) ∧ DI s h ∧ FM h h) := ⟨rfl, I, FM.rf h⟩
  have e0 : h 2 0 = nI (s.1 0 0) := I.1.1.2.1 0 (by decide)
  have hL := I.1.1.1.1
  have v34 : nI (s.1 0 0) = 3 ∨ nI (s.1 0 0) = 4 := by rcases (by omega : s.1 0 0 = 3 ∨ s.1 0 0 = 4) with z | z <;> rw [z]; exact Or.inl rfl; exact Or.inr rfl
  refine ⟨fun ok => ?_, fun nk => ?_⟩
  · obtain ⟨o1, o2, o3⟩ := ok
    refine td_entry rfl (Nat.le_of_ble_eq_true rfl) rfl (gX9_share_0 ?_)
    rw [e0, ixn (i := s.1 0 0) (by omega)]
    obtain ⟨k, hk, ek⟩ := in_n (by omega) o1
    refine ⟨fun y => absurd o1 (bz y), fun _ => ⟨fun y => absurd o2 (bz y), fun _ => ⟨fun _ => ⟨v34, ?_, (is_in (n := 2) (by decide)).mp o2, (is_in (n := 12) (by decide)).mp o3, rfl, I, FM.rf h⟩, fun y => absurd o3 (bz y)⟩⟩⟩
    rw [ek]; exact vp_in_nI (by omega) (by decide)
  · refine td_entry rfl (Nat.le_of_ble_eq_true rfl) rfl (gX9_share_0 ?_)
    rw [e0]
    refine ⟨fun _ => bad, fun y => ⟨fun _ => bad, fun z => ⟨fun w => absurd ⟨bnz y, bnz z, bnz w⟩ nk, fun _ => bad⟩⟩⟩
def okOpen (x1 x2 : Int32) : Prop := (0 ≤ x1 ∧ x1 < 2) ∧ (0 ≤ x2 ∧ x2 < 12)
theorem D_open {G : td_G} {d : Nat} {h : td_H} {s : gS} (x1 x2 : Int32) (I : DI s h) : (okOpen x1 x2 → td_C G (d + 2) mX9_open [.ref 0, .int x1, .int x2] h (dPost (ms (opM (s.1 0 0) (s.1 0 1) (ix x1) (ix x2))) s h)) ∧ (¬ okOpen x1 x2 → td_C G (d + 2) mX9_open [.ref 0, .int x1, .int x2] h (dPost (-1) s h)) := by
  have bad : (some (Value.int (-1)) = some (.int (-1)) ∧ DI s h ∧ FM h h) := ⟨rfl, I, FM.rf h⟩
  have e0 : h 2 0 = nI (s.1 0 0) := I.1.1.2.1 0 (by decide)
  have e1 : h 2 1 = nI (s.1 0 1) := I.1.1.2.1 1 (by decide)
  have hL := I.1.1.1.1
  have hO := I.1.1.1.2.1
  have v34 : nI (s.1 0 0) = 3 ∨ nI (s.1 0 0) = 4 := by rcases (by omega : s.1 0 0 = 3 ∨ s.1 0 0 = 4) with z | z <;> rw [z]; exact Or.inl rfl; exact Or.inr rfl
  refine ⟨fun ok => ?_, fun nk => ?_⟩
  · obtain ⟨o1, o2⟩ := ok
    refine td_entry rfl (Nat.le_of_ble_eq_true rfl) rfl (gX9_open_0 ?_)
    rw [e0, e1, ixn (i := s.1 0 0) (by omega), ixn (i := s.1 0 1) (by omega)]
    exact ⟨fun y => absurd o1 (bz y), fun _ => ⟨fun _ => ⟨v34, vp_in_nI (by omega) (by decide), (is_in (n := 2) (by decide)).mp o1, (is_in (n := 12) (by decide)).mp o2, rfl, I, FM.rf h⟩, fun y => absurd o2 (bz y)⟩⟩
  · refine td_entry rfl (Nat.le_of_ble_eq_true rfl) rfl (gX9_open_0 ?_)
    exact ⟨fun _ => bad, fun y => ⟨fun z => absurd ⟨bnz y, bnz z⟩ nk, fun _ => bad⟩⟩
def okPers (x1 x2 x3 : Int32) : Prop := (0 ≤ x1 ∧ x1 < 120) ∧ (0 ≤ x2 ∧ x2 < 2) ∧ (0 ≤ x3 ∧ x3 < 6)
theorem D_person {G : td_G} {d : Nat} {h : td_H} {s : gS} (x1 x2 x3 : Int32) (I : DI s h) : (okPers x1 x2 x3 → s.1 1 0 < 12 → td_C G (d + 2) mX9_person [.ref 0, .int x1, .int x2, .int x3] h (dPost (nI (s.1 1 0)) (addG s.1 (ix x1) (ix x2) (ix x3), s.2) h)) ∧ (okPers x1 x2 x3 → ¬ s.1 1 0 < 12 → td_C G (d + 2) mX9_person [.ref 0, .int x1, .int x2, .int x3] h (dPost (-3) s h)) ∧ (¬ okPers x1 x2 x3 → td_C G (d + 2) mX9_person [.ref 0, .int x1, .int x2, .int x3] h (dPost (-1) s h)) := by
  have bad : (some (Value.int (-1)) = some (.int (-1)) ∧ DI s h ∧ FM h h) := ⟨rfl, I, FM.rf h⟩
  have e4 : h 1 4 = nI (s.1 1 0) := I.1.1.2.2.1
  have hn := I.1.1.1.n
  refine ⟨fun ok hl => ?_, fun ok hl => ?_, fun nk => ?_⟩
  · obtain ⟨o1, o2, o3⟩ := ok
    obtain ⟨a, ha, rfl⟩ := in_n (n := 120) (by decide) o1
    obtain ⟨b, hb, rfl⟩ := in_n (n := 2) (by decide) o2
    obtain ⟨c, hc, rfl⟩ := in_n (n := 6) (by decide) o3
    rw [ixn (by omega), ixn (by omega), ixn (by omega)]
    obtain ⟨I2, F2⟩ := I.plan (addG s.1 a b c) (by rw [addG_5]; exact I.1.2.1) (I.1.1.add hl ha hb hc) (fun x y z => addH_fr h 1 (s.1 1 0) _ _ _ x y (by omega))
    refine td_entry rfl (Nat.le_of_ble_eq_true rfl) rfl (gX9_person_0 (n := s.1 1 0) ?_)
    rw [e4]
    refine ⟨fun y => absurd o1 (bz y), fun _ => ⟨fun y => absurd o2 (bz y), fun _ => ⟨fun _ => ⟨fun _ => ⟨rfl, hl, ?_, I2, F2⟩, fun y => absurd ((nI_ltI (b := 12) (by omega) (by decide)).mpr hl) y⟩, fun y => absurd o3 (bz y)⟩⟩⟩
    rw [I2.1.1.2.2.1]
    show some (Value.int (nI (addG s.1 a b c 1 0) - 1)) = _
    rw [addG_1, show nI (s.1 1 0 + 1) - 1 = nI (s.1 1 0) from pk_sub (a := s.1 1 0 + 1) (b := 1) (by omega)]
  · obtain ⟨o1, o2, o3⟩ := ok
    refine td_entry rfl (Nat.le_of_ble_eq_true rfl) rfl (gX9_person_0 (n := s.1 1 0) ?_)
    rw [e4]
    exact ⟨fun y => absurd o1 (bz y), fun _ => ⟨fun y => absurd o2 (bz y), fun _ => ⟨fun _ => ⟨fun y => absurd (lt_of (b := 12) y) hl, fun _ => ⟨rfl, I, FM.rf h⟩⟩, fun y => absurd o3 (bz y)⟩⟩⟩
  · refine td_entry rfl (Nat.le_of_ble_eq_true rfl) rfl (gX9_person_0 (n := s.1 1 0) ?_)
    exact ⟨fun _ => bad, fun y => ⟨fun _ => bad, fun z => ⟨fun w => absurd ⟨bnz y, bnz z, bnz w⟩ nk, fun _ => bad⟩⟩⟩
abbrev isP (g : nH) (x : Int32) : Prop := 0 ≤ x ∧ x < nI (g 1 0)
theorem isP_of {g : nH} (hw : wfC g) {x : Int32} (h : isP g x) : ∃ p, p < g 1 0 ∧ x = nI p ∧ ix x = p ∧ vp_in x 12 := by
  have hn := hw.n
  obtain ⟨p, hp, rfl⟩ := in_n (by omega) h
  exact ⟨p, hp, rfl, ixn (by omega), vp_in_nI (by omega) (by decide)⟩
def aTold (g : nH) (p : Nat) (y : Int32) : Int32 := if y = 0 then nI (g 4 p) else if y = 1 then nI (g 2 p) else if y = 2 then nI (g 3 p) else if y = 3 then nI (szk (g 3 p)) else if y = 4 then nI (puk (g 3 p)) else -1
theorem D_told {G : td_G} {d : Nat} {h : td_H} {s : gS} (x1 x2 : Int32) (I : DI s h) : (isP s.1 x1 → td_C G (d + 2) mX9_told [.ref 0, .int x1, .int x2] h (dPost (aTold s.1 (ix x1) x2) s h)) ∧ (¬ isP s.1 x1 → td_C G (d + 2) mX9_told [.ref 0, .int x1, .int x2] h (dPost (-1) s h)) := by
  have e4 : h 1 4 = nI (s.1 1 0) := I.1.1.2.2.1
  refine ⟨fun ok => ?_, fun nk => ?_⟩
  · obtain ⟨p, hp, rfl, ep, v12⟩ := isP_of I.1.1.1 ok
    obtain ⟨r1, r2, r3⟩ := I.1.1.2.2.2 p hp
    refine td_entry rfl (Nat.le_of_ble_eq_true rfl) rfl (gX9_told_0 (c := s.1) ?_)
    rw [e4, ep]
    refine ⟨fun _ => ⟨fun y => ⟨v12, ?_, I, FM.rf h⟩, fun y => ⟨v12, ?_, I, FM.rf h⟩, fun y => ⟨v12, ?_, I, FM.rf h⟩, fun y => ⟨I.1.1, v12, hp, ?_, I, FM.rf h⟩, fun y => ⟨I.1.1, v12, hp, ?_, I, FM.rf h⟩, fun y => ⟨?_, I, FM.rf h⟩⟩, fun y => absurd ok (bz y)⟩ <;> unfold aTold
    · rw [show h 3 p = _ from r1, if_pos y]
    · subst y; rw [show h 4 p = _ from r2, if_neg (by decide), if_pos rfl]
    · subst y; rw [show h 5 p = _ from r3, if_neg (by decide), if_neg (by decide), if_pos rfl]
    · subst y; rw [if_neg (by decide), if_neg (by decide), if_neg (by decide), if_pos rfl]
    · subst y; rw [if_neg (by decide), if_neg (by decide), if_neg (by decide), if_neg (by decide), if_pos rfl]
    · rw [if_neg y.1, if_neg y.2.1, if_neg y.2.2.1, if_neg y.2.2.2.1, if_neg y.2.2.2.2]
  · refine td_entry rfl (Nat.le_of_ble_eq_true rfl) rfl (gX9_told_0 (c := s.1) ?_)
    rw [e4]
    exact ⟨fun y => absurd (bnz y) nk, fun _ => ⟨rfl, I, FM.rf h⟩⟩
def okDelay (g : nH) (x1 x2 : Int32) : Prop := isP g x1 ∧ (0 ≤ x2 ∧ x2 < 120)
theorem delay_P {g : nH} {q p t : Nat} {h : td_H} (x : dP g q h) (ht : t < 120) : dP (nu g 4 p t) q (hu h (q + 2) p (nI t)) := by
  obtain ⟨w, a1, a2, a3⟩ := x
  have e : ∀ a b, a ≠ 4 → nu g 4 p t a b = g a b := fun a b z => by rw [nu_app, if_neg (fun w => z w.1)]
  refine ⟨?_, fun i hi => ?_, ?_, fun j hj => ?_⟩
  · obtain ⟨b0, b1, b2, b3, b4, b5, b6, b7, b8, b9, b10⟩ := w
    unfold wfC
    simp only [e 0 _ (by decide), e 1 _ (by decide), e 2 _ (by decide), e 3 _ (by decide)]
    refine ⟨b0, b1, b2, b3, b4, b5, b6, b7, b8, b9, fun j hj => ⟨(b10 j hj).1, (b10 j hj).2.1, ?_⟩⟩
    rw [nu_app]
    split
    · exact ht
    · exact (b10 j hj).2.2
  · rw [e 0 i (by decide), hu_app, if_neg (by omega)]; exact a1 i hi
  · rw [e 1 0 (by decide), hu_app, if_neg (by omega)]; exact a2
  · rw [e 1 0 (by decide)] at hj
    refine ⟨?_, ?_, ?_⟩
    · rw [hu_app, nu_app]
      by_cases z : j = p
      · rw [if_pos ⟨rfl, z⟩, if_pos ⟨rfl, z⟩]
      · rw [if_neg (fun w => z w.2), if_neg (fun w => z w.2)]; exact (a3 j hj).1
    · rw [e 2 j (by decide), hu_app, if_neg (by omega)]; exact (a3 j hj).2.1
    · rw [e 3 j (by decide), hu_app, if_neg (by omega)]; exact (a3 j hj).2.2
theorem D_delay {G : td_G} {d : Nat} {h : td_H} {s : gS} (x1 x2 : Int32) (I : DI s h) : (okDelay s.1 x1 x2 → td_C G (d + 2) mX9_delay [.ref 0, .int x1, .int x2] h (dPost (nI (s.1 4 (ix x1))) (nu s.1 4 (ix x1) (ix x2), s.2) h)) ∧ (¬ okDelay s.1 x1 x2 → td_C G (d + 2) mX9_delay [.ref 0, .int x1, .int x2] h (dPost (-1) s h)) := by
  have e4 : h 1 4 = nI (s.1 1 0) := I.1.1.2.2.1
  refine ⟨fun ok => ?_, fun nk => ?_⟩
  · obtain ⟨p, hp, rfl, ep, v12⟩ := isP_of I.1.1.1 ok.1
    obtain ⟨t, ht, rfl⟩ := in_n (n := 120) (by decide) ok.2
    rw [ep, ixn (by omega)]
    obtain ⟨I2, F2⟩ := I.plan (nu s.1 4 p t) (by rw [nu_app, if_neg (by omega)]; exact I.1.2.1) (delay_P I.1.1 ht) (fun a b z => by rw [hu_app, if_neg (by omega)])
    refine td_entry rfl (Nat.le_of_ble_eq_true rfl) rfl (gX9_delay_0 ?_)
    rw [e4, ep]
    refine ⟨fun y => absurd ok.1 (bz y), fun _ => ⟨fun _ => ⟨v12, ?_, I2, F2⟩, fun y => absurd ok.2 (bz y)⟩⟩
    rw [show h 3 p = _ from (I.1.1.2.2.2 p hp).1]
  · refine td_entry rfl (Nat.le_of_ble_eq_true rfl) rfl (gX9_delay_0 ?_)
    rw [e4]
    exact ⟨fun _ => ⟨rfl, I, FM.rf h⟩, fun y => ⟨fun z => absurd ⟨bnz y, bnz z⟩ nk, fun _ => ⟨rfl, I, FM.rf h⟩⟩⟩
theorem clear_P {g : nH} {q : Nat} {h : td_H} (x : dP g q h) : dP (nu g 1 0 0) q (hu h q 4 0) := by
  obtain ⟨w, a1, a2, a3⟩ := x
  have e : ∀ a b, a ≠ 1 → nu g 1 0 0 a b = g a b := fun a b z => by rw [nu_app, if_neg (fun w => z w.1)]
  have e1 : nu g 1 0 0 1 0 = 0 := by rw [nu_app, if_pos ⟨rfl, rfl⟩]
  refine ⟨?_, fun i hi => ?_, ?_, fun j hj => ?_⟩
  · obtain ⟨b0, b1, b2, b3, b4, b5, b6, b7, b8, b9, b10⟩ := w
    unfold wfC
    simp only [e 0 _ (by decide), e1]
    exact ⟨b0, b1, b2, b3, b4, b5, b6, b7, b8, by omega, fun j hj => absurd hj (by omega)⟩
  · rw [e 0 i (by decide), hu_app, if_neg (by omega)]; exact a1 i hi
  · rw [e1, hu_app, if_pos ⟨rfl, rfl⟩]; rfl
  · rw [e1] at hj; omega
theorem D_clear {G : td_G} {d : Nat} {h : td_H} {s : gS} (I : DI s h) : td_C G (d + 2) mX9_clear [.ref 0] h (dPost (nI (s.1 1 0)) (nu s.1 1 0 0, s.2) h) := by
  obtain ⟨I2, F2⟩ := I.plan (nu s.1 1 0 0) (by rw [nu_app, if_neg (by omega)]; exact I.1.2.1) (clear_P I.1.1) (fun a b z => by rw [hu_app, if_neg (by omega)])
  exact td_entry rfl (Nat.le_of_ble_eq_true rfl) rfl (gX9_clear_0 ⟨by rw [I.1.1.2.2.1], I2, F2⟩)
def aCount (g : nH) (x : Int32) : Int32 := if x = 0 then nI (g 1 0) else if x = 1 then nI (fb_ct (fun p => decide (g 2 p = 0)) (g 1 0)) else -1
theorem D_count {G : td_G} {d : Nat} {h : td_H} {s : gS} (x : Int32) (I : DI s h) : td_C G (d + 1) mX9_count [.ref 0, .int x] h (dPost (aCount s.1 x) s h) := by
  refine td_entry rfl (Nat.le_of_ble_eq_true rfl) rfl (gX9_count_0 (c := s.1) ⟨fun y => ⟨?_, I, FM.rf h⟩, fun y => ⟨I.1.1, ?_, I, FM.rf h⟩, fun y => ⟨?_, I, FM.rf h⟩⟩) <;> unfold aCount
  · rw [I.1.1.2.2.1, if_pos y]
  · subst y; rw [if_neg (by decide), if_pos rfl]
  · rw [if_neg y.1, if_neg y.2]
/-! type, people -/
def okType (w : Int64) (x : Int32) : Prop := (¬ x < 1 ∧ ¬ 8 < x) ∧ allB (plW w) (ix x) = true
theorem ty_in {x : Int32} (h : ¬ x < 1 ∧ ¬ 8 < x) : ∃ n, 1 ≤ n ∧ n ≤ 8 ∧ x = nI n ∧ ix x = n ∧ vp_in x 9 := by
  have h0 : 0 ≤ x := by
    have a := h.1
    rw [fa_lt] at a
    rw [fa_le, Int32.toInt_zero]
    have : (1 : Int32).toInt = 1 := by decide
    omega
  obtain ⟨e, hb⟩ := nn_of h0
  have a := h.1
  have b := h.2
  rw [e] at a b
  have a2 := nlt_of (b := 1) a
  have b2 := nlt_of (a := 8) b
  refine ⟨ix x, a2, b2, e, rfl, ?_⟩
  rw [e]
  exact vp_in_nI (by omega) (by decide)
theorem DI.tape {s : gS} {h h1 : td_H} (x : DI s h) {L : Nat} {f : Nat → Nat} (ht : tD L f h1) (e : ∀ a b, ¬ (11 ≤ a ∧ a ≤ 15) → h1 a b = h a b) : DI (s.1, s.2.1, (L, f), s.2.2.2) h1 ∧ FM h h1 := by
  obtain ⟨⟨a1, a2, a3, a4, a5, a6, a7, a8⟩, c1, c2, c3, c4, c5⟩ := x
  refine ⟨⟨⟨a1.fr (fun a b _ _ => e a b (by omega)), a2, a3.fr (e _ _ (by omega)) (fun a b _ _ => e a b (by omega)), ht, a5.fr (fun a b _ _ => e a b (by omega)), a6, a7.fr (fun a b _ _ => e a b (by omega)), a8.fr (fun a b _ _ => e a b (by omega))⟩, ?_, ?_, ?_, ?_, ?_⟩, fun a b z => e a b (by omega)⟩
  · rcases c1 with z | z
    · left; rw [e _ _ (by omega)]; exact z
    · right
      refine ⟨by rw [e _ _ (by omega)]; exact z.1, z.2.1.log (fun a b _ _ => e a b (by omega)), fun t ht => ?_⟩
      obtain ⟨b1, b2, b3, b4, b5⟩ := z.2.2 t ht
      exact ⟨by rw [e _ _ (by omega)]; exact b1, by rw [e _ _ (by omega)]; exact b2, by rw [e _ _ (by omega)]; exact b3, by rw [e _ _ (by omega)]; exact b4, fun i hi => by rw [e _ _ (by omega)]; exact b5 i hi⟩
  · obtain ⟨K, k1, k2, k3⟩ := c2
    exact ⟨K, k1, by rw [e _ _ (by omega)]; exact k2, fun m hm => by rw [e _ _ (by omega)]; exact k3 m hm⟩
  · rcases c3 with z | z
    · left; rw [e _ _ (by omega)]; exact z
    · right; exact ⟨by rw [e _ _ (by omega)]; exact z.1, fun k hk => ⟨by rw [e _ _ (by omega)]; exact (z.2 k hk).1, by rw [e _ _ (by omega)]; exact (z.2 k hk).2⟩⟩
  · rcases c4 with z | z
    · left; rw [e _ _ (by omega)]; exact z
    · right; exact ⟨by rw [e _ _ (by omega)]; exact z.1, fun k hk p hp => by rw [e _ _ (by omega)]; exact z.2 k hk p hp⟩
  · rcases c5 with z | ⟨v, v1, v2, v3, v4⟩
    · left; rw [e _ _ (by omega)]; exact z
    · right; exact ⟨v, v1, v2, by rw [e _ _ (by omega)]; exact v3, v4.fr (e _ _ (by omega)) (e _ _ (by omega)) (fun b => e _ _ (by omega))⟩
theorem D_type {G : td_G} {d : Nat} {h : td_H} {s : gS} (w : Int64) (x : Int32) (I : DI s h) : (okType w x → s.2.2.1.1 + ix x ≤ 80 → td_C G (d + 2) mX9_type [.ref 0, .long w, .int x] h (dPost (nI (s.2.2.1.1 + ix x)) (s.1, s.2.1, (s.2.2.1.1 + ix x, apF s.2.2.1.1 s.2.2.1.2 w (ix x)), s.2.2.2) h)) ∧ (okType w x → ¬ s.2.2.1.1 + ix x ≤ 80 → td_C G (d + 2) mX9_type [.ref 0, .long w, .int x] h (dPost (-3) s h)) ∧ (¬ okType w x → td_C G (d + 2) mX9_type [.ref 0, .long w, .int x] h (dPost (-1) s h)) := by
  have ht := I.1.2.2.2.1
  have hL := ht.1
  have bad : (some (Value.int (-1)) = some (.int (-1)) ∧ DI s h ∧ FM h h) := ⟨rfl, I, FM.rf h⟩
  refine ⟨fun ok hl => ?_, fun ok hl => ?_, fun nk => ?_⟩
  · obtain ⟨n, n1, n8, rfl, en, v9⟩ := ty_in ok.1
    obtain ⟨o1, o2⟩ := ok
    rw [en] at hl ⊢
    refine td_entry rfl (Nat.le_of_ble_eq_true rfl) rfl (gX9_type_0 (L := s.2.2.1.1) (f := s.2.2.1.2) ⟨fun y => absurd y o1.1, fun _ => ⟨fun y => absurd y o1.2, fun _ => ⟨v9, fun _ => ⟨fun _ => ⟨ht, by rw [en]; exact hl, o2, fun h44 hh => ?_⟩, fun y => ?_⟩, fun y => absurd o2 (bz y)⟩⟩⟩)
    · obtain ⟨I2, F2⟩ := I.tape hh.2 (fun a b z => hh.1 a b (by omega))
      rw [en] at I2
      refine ⟨?_, I2, F2⟩
      rw [hh.2.2.2.1, en]
    · rw [ht.2.2.1, nI_add] at y
      exact absurd ((nI_leI (b := 80) (by omega) (by decide)).mpr hl) y
  · obtain ⟨n, n1, n8, rfl, en, v9⟩ := ty_in ok.1
    obtain ⟨o1, o2⟩ := ok
    rw [en] at hl
    refine td_entry rfl (Nat.le_of_ble_eq_true rfl) rfl (gX9_type_0 (L := s.2.2.1.1) (f := s.2.2.1.2) ⟨fun y => absurd y o1.1, fun _ => ⟨fun y => absurd y o1.2, fun _ => ⟨v9, fun _ => ⟨fun y => ?_, fun _ => ⟨rfl, I, FM.rf h⟩⟩, fun y => absurd o2 (bz y)⟩⟩⟩)
    rw [ht.2.2.1, nI_add] at y
    exact absurd (le_of (b := 80) y) hl
  · refine td_entry rfl (Nat.le_of_ble_eq_true rfl) rfl (gX9_type_0 (L := s.2.2.1.1) (f := s.2.2.1.2) ⟨fun _ => bad, fun y => ⟨fun _ => bad, fun z => ?_⟩⟩)
    obtain ⟨n, n1, n8, rfl, en, v9⟩ := ty_in ⟨y, z⟩
    exact ⟨v9, fun u => absurd ⟨⟨y, z⟩, bnz u⟩ nk, fun _ => bad⟩
theorem rdE_b {L : Nat} {f : Nat → Nat} (hL : L ≤ 80) : ∀ m k, m + k = 8 → plc L f k ≤ L → (rdE L f m k).2 ≤ 81
  | 0, k, _, hp => by show plc L f k ≤ 81; omega
  | m + 1, k, hk, hp => by
    have r := rpP_le (f := f) hp
    have q := sk_le (f := f) (L - rpP L f (plc L f k)) (rpP L f (plc L f k)) rfl r
    unfold rdE
    split
    · split
      · show k + 1 ≤ 81; omega
      · split
        · rename_i y1 y2 y3
          refine rdE_b hL m (k + 1) (by omega) ?_
          show sk L f (rpP L f (plc L f k)) + 1 ≤ L
          omega
        · show sk L f (rpP L f (plc L f k)) ≤ 81; omega
    · show rpP L f (plc L f k) ≤ 81; omega
def adG (g : nH) (L : Nat) (f : Nat → Nat) : Nat → nH
  | 0 => g
  | k + 1 => addG (adG g L f k) (tT L f k) (tS L f k) (tK L f k)
theorem adG_1 (g : nH) (L : Nat) (f : Nat → Nat) : ∀ k, adG g L f k 1 0 = g 1 0 + k
  | 0 => rfl
  | k + 1 => by
    show addG (adG g L f k) _ _ _ 1 0 = _
    rw [addG_1, adG_1 g L f k]
    omega
theorem adG_5 (g : nH) (L : Nat) (f : Nat → Nat) : ∀ k, adG g L f k 5 0 = g 5 0
  | 0 => rfl
  | k + 1 => by
    show addG (adG g L f k) _ _ _ 5 0 = _
    rw [addG_5, adG_5 g L f k]
theorem D_people {G : td_G} {d : Nat} {h : td_H} {s : gS} (I : DI s h) : ((rdE s.2.2.1.1 s.2.2.1.2 8 0).1 = 0 → s.1 1 0 + (rdE s.2.2.1.1 s.2.2.1.2 8 0).2 ≤ 12 → td_C G (d + 6) mX9_people [.ref 0] h (dPost (nI (rdE s.2.2.1.1 s.2.2.1.2 8 0).2) (adG s.1 s.2.2.1.1 s.2.2.1.2 (rdE s.2.2.1.1 s.2.2.1.2 8 0).2, s.2.1, (0, s.2.2.1.2), s.2.2.2) h)) ∧ ((rdE s.2.2.1.1 s.2.2.1.2 8 0).1 = 0 → ¬ s.1 1 0 + (rdE s.2.2.1.1 s.2.2.1.2 8 0).2 ≤ 12 → td_C G (d + 6) mX9_people [.ref 0] h (dPost (-3) (s.1, s.2.1, (0, s.2.2.1.2), s.2.2.2) h)) ∧ (¬ (rdE s.2.2.1.1 s.2.2.1.2 8 0).1 = 0 → td_C G (d + 6) mX9_people [.ref 0] h (dPost ((-20) - nI (rdE s.2.2.1.1 s.2.2.1.2 8 0).2) (s.1, s.2.1, (0, s.2.2.1.2), s.2.2.2) h)) := by
  obtain ⟨g, o, ⟨L, f⟩, S⟩ := s
  have ht : tD L f h := I.1.2.2.2.1
  have hn : g 1 0 ≤ 12 := I.1.1.1.n
  have e4 : h 1 4 = nI (g 1 0) := I.1.1.2.2.1
  have emp : ∀ h4, FrT h h4 → DI (g, o, (0, f), S) (hu h4 11 4 0) ∧ FM h (hu h4 11 4 0) := fun h4 hF => I.tape (h1 := hu h4 11 4 0) ⟨by decide, fun i hi => absurd hi (by omega), by rw [hu_app, if_pos ⟨rfl, rfl⟩]; rfl, fun i hi => absurd hi (by omega)⟩ (fun a b z => by rw [hu_app, if_neg (by omega)]; exact hF a b (by omega))
  have eq0 : (rdE L f 8 0).1 = 0 → rdI (rdE L f 8 0) = 0 := fun z => by unfold rdI; rw [if_pos z]
  refine ⟨fun h0 hl => ?_, fun h0 hl => ?_, fun h0 => ?_⟩
  · refine td_entry rfl (Nat.le_of_ble_eq_true rfl) rfl (gX9_people_0 (L := L) (f := f) ⟨ht, fun h4 hh => ⟨fun _ => ?_, fun y => absurd (eq0 h0) y⟩⟩)
    obtain ⟨k5, k8, kA⟩ := hh.2 h0
    obtain ⟨IE, FE⟩ := emp h4 hh.1
    have E4 : (hu h4 11 4 0) 1 4 = nI (g 1 0) := by rw [hu_app, if_neg (by omega), hh.1 _ _ (by omega)]; exact e4
    have E5 : (hu h4 11 4 0) 11 5 = nI (rdE L f 8 0).2 := by rw [hu_app, if_neg (by omega)]; exact k5
    have hl : g 1 0 + (rdE L f 8 0).2 ≤ 12 := hl
    rw [E4, E5, nI_add]
    refine ⟨fun _ => ?_, fun y => absurd ((nI_leI (b := 12) (by omega) (by decide)).mpr hl) y⟩
    have A4 : ∀ j, j < (rdE L f 8 0).2 → (hu h4 11 4 0) 13 j = nI (tT L f j) ∧ (hu h4 11 4 0) 14 j = nI (tS L f j) ∧ (hu h4 11 4 0) 15 j = nI (tK L f j) ∧ tT L f j < 120 ∧ tS L f j < 2 ∧ tK L f j < 6 := fun j hj => by
      rw [hu_app, if_neg (by omega), hu_app, if_neg (by omega), hu_app, if_neg (by omega)]; exact kA j hj
    generalize (rdE L f 8 0).2 = m at *
    generalize rdI (rdE L f 8 0) = x1
    refine td_forH m (fun k => [(0, .ref 0), (1, .int x1), (2, .int (nI k))]) (fun k h1 => (∀ a b, ¬ (1 ≤ a ∧ a ≤ 5) → h1 a b = (hu h4 11 4 0) a b) ∧ dP (adG g L f k) 1 h1) rfl ⟨fun _ _ _ => rfl, IE.1.1⟩ (fun k hk h1 hI ih => ?_) (fun h1 hI => ?_)
    · obtain ⟨hF, hP⟩ := hI
      obtain ⟨b1, b2, b3, b4, b5, b6⟩ := A4 k hk
      have en := adG_1 g L f k
      refine gX9_people_47 (n := adG g L f k 1 0) ?_
      rw [hF 11 5 (by omega), E5, ixn (i := k) (by omega), hF 13 k (by omega), hF 14 k (by omega), hF 15 k (by omega), b1, b2, b3]
      refine ⟨fun y => absurd (le_of y) (by omega), fun _ => ⟨fun y => absurd (le_of (a := 8) y) (by omega), fun _ => ⟨vp_in_nI (by omega) (by decide), hP.2.2.1, by omega, ?_⟩⟩⟩
      refine td_to (ih _ ⟨fun a b z => ?_, hP.add (by omega) b4 b5 b6⟩) (by rw [nI_1]) rfl rfl
      rw [addH_fr h1 1 _ _ _ _ a b (by omega)]; exact hF a b z
    · obtain ⟨hF, hP⟩ := hI
      obtain ⟨I2, F2⟩ := IE.plan (adG g L f m) (by rw [adG_5]; exact I.1.2.1) hP hF
      have fin : some (Value.int ((fgH h1) 11 5)) = some (.int (nI m)) ∧ DI (adG g L f m, o, (0, f), S) (fgH h1) ∧ FM h (fgH h1) := by
        refine ⟨?_, I2, fun a b z => (F2 a b z).trans (FE a b z)⟩
        rw [fgH_o h1 (by omega), hF 11 5 (by omega), E5]
      refine gX9_people_47 (n := 0) ⟨fun _ => fin, fun y => ?_⟩
      rw [hF 11 5 (by omega), E5] at y
      exact absurd (nle_of y) (by omega)
  · refine td_entry rfl (Nat.le_of_ble_eq_true rfl) rfl (gX9_people_0 (L := L) (f := f) ⟨ht, fun h4 hh => ⟨fun _ => ?_, fun y => absurd (eq0 h0) y⟩⟩)
    obtain ⟨k5, k8, kA⟩ := hh.2 h0
    have E4 : (hu h4 11 4 0) 1 4 = nI (g 1 0) := by rw [hu_app, if_neg (by omega), hh.1 _ _ (by omega)]; exact e4
    have E5 : (hu h4 11 4 0) 11 5 = nI (rdE L f 8 0).2 := by rw [hu_app, if_neg (by omega)]; exact k5
    have hl : ¬ g 1 0 + (rdE L f 8 0).2 ≤ 12 := hl
    rw [E4, E5, nI_add]
    exact ⟨fun y => absurd (le_of (b := 12) y) hl, fun _ => ⟨rfl, emp h4 hh.1⟩⟩
  · have ne : rdI (rdE L f 8 0) = (-20) - nI (rdE L f 8 0).2 := by unfold rdI; rw [if_neg h0]
    refine td_entry rfl (Nat.le_of_ble_eq_true rfl) rfl (gX9_people_0 (L := L) (f := f) ⟨ht, fun h4 hh => ⟨fun y => ?_, fun _ => ⟨by rw [ne], emp h4 hh.1⟩⟩⟩)
    have b := rdE_b (f := f) ht.1 8 0 rfl (Nat.zero_le _)
    rw [ne] at y
    exfalso
    generalize (rdE L f 8 0).2 = z at b y
    exact absurd y ((by decide +kernel : ∀ z, z < 82 → ¬ ((-20 : Int32) - nI z = 0)) z (by omega))
