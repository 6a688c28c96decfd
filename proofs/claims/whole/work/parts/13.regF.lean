set_option maxRecDepth 20000 in
theorem rX9_set_0 {G : td_G} {d : Nat} {Post : td_P} {x1 x2 : Int32} {h : td_H} (K : td_J G d mX9_set Post 3 [(0, .ref 0), (1, .int x1), (2, .int x2)] [.int 9, .int x1] h) : td_J G d mX9_set Post 0 [(0, .ref 0), (1, .int x1), (2, .int x2)] [] h := by
  refine td_iload_n 1 dX9_set_0 rfl ?_
  refine td_bipush (v := 9) dX9_set_1 (by decide) ?_
  exact K
set_option maxRecDepth 20000 in
theorem rX9_set_6 {G : td_G} {d : Nat} {Post : td_P} {x1 x2 s0 : Int32} {h : td_H} (K : (s0 = 0 → td_J G d mX9_set Post 27 [(0, .ref 0), (1, .int x1), (2, .int x2)] [] h) ∧ (¬ s0 = 0 → (vp_in x1 9 ∧ ((x2 < ((td_st 0).getD (ix x1) 0) → td_J G d mX9_set Post 27 [(0, .ref 0), (1, .int x1), (2, .int x2)] [] h) ∧ (¬ x2 < ((td_st 0).getD (ix x1) 0) → (vp_in x1 9 ∧ ((x2 ≤ ((td_st 1).getD (ix x1) 0) → (vp_in x1 9 ∧ (vp_in x1 9 ∧ (td_J G d mX9_set Post 50 [(0, .ref 0), (1, .int x1), (2, .int x2), (3, .int (h 2 (ix x1)))] [.ref 0] (hu h 2 (ix x1) x2))))) ∧ (¬ x2 ≤ ((td_st 1).getD (ix x1) 0) → td_J G d mX9_set Post 27 [(0, .ref 0), (1, .int x1), (2, .int x2)] [] h)))))))) : td_J G d mX9_set Post 6 [(0, .ref 0), (1, .int x1), (2, .int x2)] [.int s0] h := by
  obtain ⟨Kt, Kf⟩ := K
  refine td_if_eq (tgt := 27) dX9_set_6 (by decide) (fun q => ?_) (fun q => ?_)
  · have K := Kt q
    exact K
  · have K := Kf q
    refine td_iload_n 2 dX9_set_9 rfl ?_
    refine gs_X9_58 rfl dX9_set_10 ?_
    refine td_iload_n 1 dX9_set_13 rfl ?_
    obtain ⟨e14, K⟩ := K
    refine td_tic (t := 0) (j := (ix x1)) (by decide) e14 rfl dX9_set_14 ?_
    obtain ⟨Kt, Kf⟩ := K
    refine td_icmp_lt (tgt := 27) dX9_set_15 (by decide) (fun q => ?_) (fun q => ?_)
    · have K := Kt q
      exact K
    · have K := Kf q
      refine td_iload_n 2 dX9_set_18 rfl ?_
      refine gs_X9_62 rfl dX9_set_19 ?_
      refine td_iload_n 1 dX9_set_22 rfl ?_
      obtain ⟨e23, K⟩ := K
      refine td_tic (t := 1) (j := (ix x1)) (by decide) e23 rfl dX9_set_23 ?_
      obtain ⟨Kt, Kf⟩ := K
      refine td_icmp_le (tgt := 29) dX9_set_24 (by decide) (fun q => ?_) (fun q => ?_)
      · have K := Kt q
        refine td_aload_n 0 dX9_set_29 rfl ?_
        refine gf_X9_12 rfl kp_0 dX9_set_30 ?_
        refine gf_X9_65 rfl kp_1 dX9_set_33 ?_
        refine td_iload_n 1 dX9_set_36 rfl ?_
        obtain ⟨e37, K⟩ := K
        refine td_ialdc (j := (ix x1)) kp_2 (by decide) e37 rfl dX9_set_37 ?_
        refine td_istore_n (lv2 := [(0, .ref 0), (1, .int x1), (2, .int x2), (3, .int (h 2 (ix x1)))]) dX9_set_38 (by decide) rfl ?_
        refine td_aload_n 0 dX9_set_39 rfl ?_
        refine gf_X9_12 rfl kp_0 dX9_set_40 ?_
        refine gf_X9_65 rfl kp_1 dX9_set_43 ?_
        refine td_iload_n 1 dX9_set_46 rfl ?_
        refine td_iload_n 2 dX9_set_47 rfl ?_
        obtain ⟨e48, K⟩ := K
        refine td_iastc (j := (ix x1)) kp_2 (by decide) e48 rfl dX9_set_48 ?_
        refine td_aload_n 0 dX9_set_49 rfl ?_
        exact K
      · have K := Kf q
        exact K
set_option maxRecDepth 20000 in
theorem rX9_set_27 {G : td_G} {d : Nat} {Post : td_P} {x1 x2 : Int32} {h : td_H} (K : Post (some (.int (-1))) h) : td_J G d mX9_set Post 27 [(0, .ref 0), (1, .int x1), (2, .int x2)] [] h := by
  refine td_iconst (v := (-1)) dX9_set_27 (by decide) ?_
  exact td_ireturn rfl dX9_set_28 K
set_option maxRecDepth 20000 in
theorem rX9_set_53 {G : td_G} {d : Nat} {Post : td_P} {x1 x2 x3 : Int32} {h : td_H} (K : Post (some (.int x3)) h) : td_J G d mX9_set Post 53 [(0, .ref 0), (1, .int x1), (2, .int x2), (3, .int x3)] [] h := by
  refine td_iload_n 3 dX9_set_53 rfl ?_
  exact td_ireturn rfl dX9_set_54 K
set_option maxRecDepth 20000 in
theorem rX9_share_0 {G : td_G} {d : Nat} {Post : td_P} {x1 x2 x3 : Int32} {h : td_H} (K : td_J G d mX9_share Post 10 [(0, .ref 0), (1, .int x1), (2, .int x2), (3, .int x3)] [.int (h 2 0), .int x1] h) : td_J G d mX9_share Post 0 [(0, .ref 0), (1, .int x1), (2, .int x2), (3, .int x3)] [] h := by
  refine td_iload_n 1 dX9_share_0 rfl ?_
  refine td_aload_n 0 dX9_share_1 rfl ?_
  refine gf_X9_12 rfl kp_0 dX9_share_2 ?_
  refine gf_X9_65 rfl kp_1 dX9_share_5 ?_
  refine td_iconst (v := 0) dX9_share_8 (by decide) ?_
  refine td_ialdc (j := 0) kp_2 (by decide) (by unfold vp_in; decide) (by decide) dX9_share_9 ?_
  exact K
set_option maxRecDepth 20000 in
theorem rX9_share_13 {G : td_G} {d : Nat} {Post : td_P} {x1 x2 x3 s0 : Int32} {h : td_H} (K : (s0 = 0 → td_J G d mX9_share Post 33 [(0, .ref 0), (1, .int x1), (2, .int x2), (3, .int x3)] [] h) ∧ (¬ s0 = 0 → td_J G d mX9_share Post 18 [(0, .ref 0), (1, .int x1), (2, .int x2), (3, .int x3)] [.int 2, .int x2] h)) : td_J G d mX9_share Post 13 [(0, .ref 0), (1, .int x1), (2, .int x2), (3, .int x3)] [.int s0] h := by
  obtain ⟨Kt, Kf⟩ := K
  refine td_if_eq (tgt := 33) dX9_share_13 (by decide) (fun q => ?_) (fun q => ?_)
  · have K := Kt q
    exact K
  · have K := Kf q
    refine td_iload_n 2 dX9_share_16 rfl ?_
    refine td_iconst (v := 2) dX9_share_17 (by decide) ?_
    exact K
set_option maxRecDepth 20000 in
theorem rX9_share_21 {G : td_G} {d : Nat} {Post : td_P} {x1 x2 x3 s0 : Int32} {h : td_H} (K : (s0 = 0 → td_J G d mX9_share Post 33 [(0, .ref 0), (1, .int x1), (2, .int x2), (3, .int x3)] [] h) ∧ (¬ s0 = 0 → td_J G d mX9_share Post 27 [(0, .ref 0), (1, .int x1), (2, .int x2), (3, .int x3)] [.int 12, .int x3] h)) : td_J G d mX9_share Post 21 [(0, .ref 0), (1, .int x1), (2, .int x2), (3, .int x3)] [.int s0] h := by
  obtain ⟨Kt, Kf⟩ := K
  refine td_if_eq (tgt := 33) dX9_share_21 (by decide) (fun q => ?_) (fun q => ?_)
  · have K := Kt q
    exact K
  · have K := Kf q
    refine td_iload_n 3 dX9_share_24 rfl ?_
    refine td_bipush (v := 12) dX9_share_25 (by decide) ?_
    exact K
set_option maxRecDepth 20000 in
theorem rX9_share_30 {G : td_G} {d : Nat} {Post : td_P} {x1 x2 x3 s0 : Int32} {h : td_H} (K : (¬ s0 = 0 → td_J G d mX9_share Post 47 [(0, .ref 0), (1, .int x1), (2, .int x2), (3, .int x3)] [.int x3, .int x2, .int x1, .int (h 2 0)] h) ∧ (s0 = 0 → td_J G d mX9_share Post 33 [(0, .ref 0), (1, .int x1), (2, .int x2), (3, .int x3)] [] h)) : td_J G d mX9_share Post 30 [(0, .ref 0), (1, .int x1), (2, .int x2), (3, .int x3)] [.int s0] h := by
  obtain ⟨Kt, Kf⟩ := K
  refine td_if_ne (tgt := 35) dX9_share_30 (by decide) (fun q => ?_) (fun q => ?_)
  · have K := Kt q
    refine td_aload_n 0 dX9_share_35 rfl ?_
    refine gf_X9_12 rfl kp_0 dX9_share_36 ?_
    refine gf_X9_65 rfl kp_1 dX9_share_39 ?_
    refine td_iconst (v := 0) dX9_share_42 (by decide) ?_
    refine td_ialdc (j := 0) kp_2 (by decide) (by unfold vp_in; decide) (by decide) dX9_share_43 ?_
    refine td_iload_n 1 dX9_share_44 rfl ?_
    refine td_iload_n 2 dX9_share_45 rfl ?_
    refine td_iload_n 3 dX9_share_46 rfl ?_
    exact K
  · have K := Kf q
    exact K
set_option maxRecDepth 20000 in
theorem rX9_share_33 {G : td_G} {d : Nat} {Post : td_P} {x1 x2 x3 : Int32} {h : td_H} (K : Post (some (.int (-1))) h) : td_J G d mX9_share Post 33 [(0, .ref 0), (1, .int x1), (2, .int x2), (3, .int x3)] [] h := by
  refine td_iconst (v := (-1)) dX9_share_33 (by decide) ?_
  exact td_ireturn rfl dX9_share_34 K
set_option maxRecDepth 20000 in
theorem rX9_share_50 {G : td_G} {d : Nat} {Post : td_P} {x1 x2 x3 s0 : Int32} {h : td_H} (K : Post (some (.int s0)) h) : td_J G d mX9_share Post 50 [(0, .ref 0), (1, .int x1), (2, .int x2), (3, .int x3)] [.int s0] h := by
  exact td_ireturn rfl dX9_share_50 K
set_option maxRecDepth 20000 in
theorem rX9_open_0 {G : td_G} {d : Nat} {Post : td_P} {x1 x2 : Int32} {h : td_H} (K : td_J G d mX9_open Post 2 [(0, .ref 0), (1, .int x1), (2, .int x2)] [.int 2, .int x1] h) : td_J G d mX9_open Post 0 [(0, .ref 0), (1, .int x1), (2, .int x2)] [] h := by
  refine td_iload_n 1 dX9_open_0 rfl ?_
  refine td_iconst (v := 2) dX9_open_1 (by decide) ?_
  exact K
set_option maxRecDepth 20000 in
theorem rX9_open_5 {G : td_G} {d : Nat} {Post : td_P} {x1 x2 s0 : Int32} {h : td_H} (K : (s0 = 0 → td_J G d mX9_open Post 17 [(0, .ref 0), (1, .int x1), (2, .int x2)] [] h) ∧ (¬ s0 = 0 → td_J G d mX9_open Post 11 [(0, .ref 0), (1, .int x1), (2, .int x2)] [.int 12, .int x2] h)) : td_J G d mX9_open Post 5 [(0, .ref 0), (1, .int x1), (2, .int x2)] [.int s0] h := by
  obtain ⟨Kt, Kf⟩ := K
  refine td_if_eq (tgt := 17) dX9_open_5 (by decide) (fun q => ?_) (fun q => ?_)
  · have K := Kt q
    exact K
  · have K := Kf q
    refine td_iload_n 2 dX9_open_8 rfl ?_
    refine td_bipush (v := 12) dX9_open_9 (by decide) ?_
    exact K
set_option maxRecDepth 20000 in
theorem rX9_open_14 {G : td_G} {d : Nat} {Post : td_P} {x1 x2 s0 : Int32} {h : td_H} (K : (¬ s0 = 0 → td_J G d mX9_open Post 39 [(0, .ref 0), (1, .int x1), (2, .int x2)] [.int x2, .int x1, .int (h 2 1), .int (h 2 0)] h) ∧ (s0 = 0 → td_J G d mX9_open Post 17 [(0, .ref 0), (1, .int x1), (2, .int x2)] [] h)) : td_J G d mX9_open Post 14 [(0, .ref 0), (1, .int x1), (2, .int x2)] [.int s0] h := by
  obtain ⟨Kt, Kf⟩ := K
  refine td_if_ne (tgt := 19) dX9_open_14 (by decide) (fun q => ?_) (fun q => ?_)
  · have K := Kt q
    refine td_aload_n 0 dX9_open_19 rfl ?_
    refine gf_X9_12 rfl kp_0 dX9_open_20 ?_
    refine gf_X9_65 rfl kp_1 dX9_open_23 ?_
    refine td_iconst (v := 0) dX9_open_26 (by decide) ?_
    refine td_ialdc (j := 0) kp_2 (by decide) (by unfold vp_in; decide) (by decide) dX9_open_27 ?_
    refine td_aload_n 0 dX9_open_28 rfl ?_
    refine gf_X9_12 rfl kp_0 dX9_open_29 ?_
    refine gf_X9_65 rfl kp_1 dX9_open_32 ?_
    refine td_iconst (v := 1) dX9_open_35 (by decide) ?_
    refine td_ialdc (j := 1) kp_2 (by decide) (by unfold vp_in; decide) (by decide) dX9_open_36 ?_
    refine td_iload_n 1 dX9_open_37 rfl ?_
    refine td_iload_n 2 dX9_open_38 rfl ?_
    exact K
  · have K := Kf q
    exact K
set_option maxRecDepth 20000 in
theorem rX9_open_17 {G : td_G} {d : Nat} {Post : td_P} {x1 x2 : Int32} {h : td_H} (K : Post (some (.int (-1))) h) : td_J G d mX9_open Post 17 [(0, .ref 0), (1, .int x1), (2, .int x2)] [] h := by
  refine td_iconst (v := (-1)) dX9_open_17 (by decide) ?_
  exact td_ireturn rfl dX9_open_18 K
set_option maxRecDepth 20000 in
theorem rX9_open_42 {G : td_G} {d : Nat} {Post : td_P} {x1 x2 s0 : Int32} {h : td_H} (K : Post (some (.int s0)) h) : td_J G d mX9_open Post 42 [(0, .ref 0), (1, .int x1), (2, .int x2)] [.int s0] h := by
  exact td_ireturn rfl dX9_open_42 K
set_option maxRecDepth 20000 in
theorem rX9_person_0 {G : td_G} {d : Nat} {Post : td_P} {x1 x2 x3 : Int32} {h : td_H} (K : td_J G d mX9_person Post 3 [(0, .ref 0), (1, .int x1), (2, .int x2), (3, .int x3)] [.int 120, .int x1] h) : td_J G d mX9_person Post 0 [(0, .ref 0), (1, .int x1), (2, .int x2), (3, .int x3)] [] h := by
  refine td_iload_n 1 dX9_person_0 rfl ?_
  refine td_bipush (v := 120) dX9_person_1 (by decide) ?_
  exact K
set_option maxRecDepth 20000 in
theorem rX9_person_6 {G : td_G} {d : Nat} {Post : td_P} {x1 x2 x3 s0 : Int32} {h : td_H} (K : (s0 = 0 → td_J G d mX9_person Post 26 [(0, .ref 0), (1, .int x1), (2, .int x2), (3, .int x3)] [] h) ∧ (¬ s0 = 0 → td_J G d mX9_person Post 11 [(0, .ref 0), (1, .int x1), (2, .int x2), (3, .int x3)] [.int 2, .int x2] h)) : td_J G d mX9_person Post 6 [(0, .ref 0), (1, .int x1), (2, .int x2), (3, .int x3)] [.int s0] h := by
  obtain ⟨Kt, Kf⟩ := K
  refine td_if_eq (tgt := 26) dX9_person_6 (by decide) (fun q => ?_) (fun q => ?_)
  · have K := Kt q
    exact K
  · have K := Kf q
    refine td_iload_n 2 dX9_person_9 rfl ?_
    refine td_iconst (v := 2) dX9_person_10 (by decide) ?_
    exact K
set_option maxRecDepth 20000 in
theorem rX9_person_14 {G : td_G} {d : Nat} {Post : td_P} {x1 x2 x3 s0 : Int32} {h : td_H} (K : (s0 = 0 → td_J G d mX9_person Post 26 [(0, .ref 0), (1, .int x1), (2, .int x2), (3, .int x3)] [] h) ∧ (¬ s0 = 0 → td_J G d mX9_person Post 20 [(0, .ref 0), (1, .int x1), (2, .int x2), (3, .int x3)] [.int 6, .int x3] h)) : td_J G d mX9_person Post 14 [(0, .ref 0), (1, .int x1), (2, .int x2), (3, .int x3)] [.int s0] h := by
  obtain ⟨Kt, Kf⟩ := K
  refine td_if_eq (tgt := 26) dX9_person_14 (by decide) (fun q => ?_) (fun q => ?_)
  · have K := Kt q
    exact K
  · have K := Kf q
    refine td_iload_n 3 dX9_person_17 rfl ?_
    refine td_bipush (v := 6) dX9_person_18 (by decide) ?_
    exact K
set_option maxRecDepth 20000 in
theorem rX9_person_23 {G : td_G} {d : Nat} {Post : td_P} {x1 x2 x3 s0 : Int32} {h : td_H} (K : (¬ s0 = 0 → (((h 1 4) < 12 → td_J G d mX9_person Post 50 [(0, .ref 0), (1, .int x1), (2, .int x2), (3, .int x3)] [.int x3, .int x2, .int x1, .ref 1] h) ∧ (¬ (h 1 4) < 12 → (Post (some (.int (-3))) h)))) ∧ (s0 = 0 → td_J G d mX9_person Post 26 [(0, .ref 0), (1, .int x1), (2, .int x2), (3, .int x3)] [] h)) : td_J G d mX9_person Post 23 [(0, .ref 0), (1, .int x1), (2, .int x2), (3, .int x3)] [.int s0] h := by
  obtain ⟨Kt, Kf⟩ := K
  refine td_if_ne (tgt := 28) dX9_person_23 (by decide) (fun q => ?_) (fun q => ?_)
  · have K := Kt q
    refine td_aload_n 0 dX9_person_28 rfl ?_
    refine gf_X9_12 rfl kp_0 dX9_person_29 ?_
    refine gf_X9_80 rfl kp_1 dX9_person_32 ?_
    refine td_bipush (v := 12) dX9_person_35 (by decide) ?_
    obtain ⟨Kt, Kf⟩ := K
    refine td_icmp_lt (tgt := 43) dX9_person_37 (by decide) (fun q => ?_) (fun q => ?_)
    · have K := Kt q
      refine td_aload_n 0 dX9_person_43 rfl ?_
      refine gf_X9_12 rfl kp_0 dX9_person_44 ?_
      refine td_iload_n 1 dX9_person_47 rfl ?_
      refine td_iload_n 2 dX9_person_48 rfl ?_
      refine td_iload_n 3 dX9_person_49 rfl ?_
      exact K
    · have K := Kf q
      refine td_bipush (v := (-3)) dX9_person_40 (by decide) ?_
      exact td_ireturn rfl dX9_person_42 K
  · have K := Kf q
    exact K
set_option maxRecDepth 20000 in
theorem rX9_person_26 {G : td_G} {d : Nat} {Post : td_P} {x1 x2 x3 : Int32} {h : td_H} (K : Post (some (.int (-1))) h) : td_J G d mX9_person Post 26 [(0, .ref 0), (1, .int x1), (2, .int x2), (3, .int x3)] [] h := by
  refine td_iconst (v := (-1)) dX9_person_26 (by decide) ?_
  exact td_ireturn rfl dX9_person_27 K
set_option maxRecDepth 20000 in
theorem rX9_person_53 {G : td_G} {d : Nat} {Post : td_P} {x1 x2 x3 : Int32} {h : td_H} (K : td_J G d mX9_person Post 54 [(0, .ref 0), (1, .int x1), (2, .int x2), (3, .int x3)] [.ref 0] h) : td_J G d mX9_person Post 53 [(0, .ref 0), (1, .int x1), (2, .int x2), (3, .int x3)] [] h := by
  refine td_aload_n 0 dX9_person_53 rfl ?_
  exact K
set_option maxRecDepth 20000 in
theorem rX9_person_57 {G : td_G} {d : Nat} {Post : td_P} {x1 x2 x3 : Int32} {h : td_H} (K : Post (some (.int ((h 1 4) - 1))) h) : td_J G d mX9_person Post 57 [(0, .ref 0), (1, .int x1), (2, .int x2), (3, .int x3)] [] h := by
  refine td_aload_n 0 dX9_person_57 rfl ?_
  refine gf_X9_12 rfl kp_0 dX9_person_58 ?_
  refine gf_X9_80 rfl kp_1 dX9_person_61 ?_
  refine td_iconst (v := 1) dX9_person_64 (by decide) ?_
  refine td_isub dX9_person_65 ?_
  exact td_ireturn rfl dX9_person_66 K
set_option maxRecDepth 20000 in
theorem rX9_told_0 {G : td_G} {d : Nat} {Post : td_P} {x1 x2 : Int32} {h : td_H} (K : td_J G d mX9_told Post 5 [(0, .ref 0), (1, .int x1), (2, .int x2)] [.int x1, .ref 1] h) : td_J G d mX9_told Post 0 [(0, .ref 0), (1, .int x1), (2, .int x2)] [] h := by
  refine td_aload_n 0 dX9_told_0 rfl ?_
  refine gf_X9_12 rfl kp_0 dX9_told_1 ?_
  refine td_iload_n 1 dX9_told_4 rfl ?_
  exact K
set_option maxRecDepth 20000 in
theorem rX9_told_8 {G : td_G} {d : Nat} {Post : td_P} {x1 x2 s0 : Int32} {h : td_H} (K : (¬ s0 = 0 → ((x2 = 0 → (vp_in x1 12 ∧ (Post (some (.int (h 3 (ix x1)))) h))) ∧ (x2 = 1 → (vp_in x1 12 ∧ (Post (some (.int (h 4 (ix x1)))) h))) ∧ (x2 = 2 → (vp_in x1 12 ∧ (Post (some (.int (h 5 (ix x1)))) h))) ∧ (x2 = 3 → td_J G d mX9_told Post 83 [(0, .ref 0), (1, .int x1), (2, .int x2)] [.int x1, .ref 1] h) ∧ (x2 = 4 → td_J G d mX9_told Post 92 [(0, .ref 0), (1, .int x1), (2, .int x2)] [.int x1, .ref 1] h) ∧ (¬ x2 = 0 ∧ ¬ x2 = 1 ∧ ¬ x2 = 2 ∧ ¬ x2 = 3 ∧ ¬ x2 = 4 → (Post (some (.int (-1))) h)))) ∧ (s0 = 0 → (Post (some (.int (-1))) h))) : td_J G d mX9_told Post 8 [(0, .ref 0), (1, .int x1), (2, .int x2)] [.int s0] h := by
  obtain ⟨Kt, Kf⟩ := K
  refine td_if_ne (tgt := 13) dX9_told_8 (by decide) (fun q => ?_) (fun q => ?_)
  · have K := Kt q
    refine td_iload_n 2 dX9_told_13 rfl ?_
    obtain ⟨K0, K⟩ := K
    by_cases q0 : x2 = 0
    · have K := K0 q0
      refine td_eqs (congrArg (fun z => Value.int z :: []) q0.symm) ?_
      refine td_tsin (tgt := 48) dX9_told_14 (by decide) (by decide) rfl (by decide) ?_
      refine td_aload_n 0 dX9_told_48 rfl ?_
      refine gf_X9_12 rfl kp_0 dX9_told_49 ?_
      refine gf_X9_92 rfl kp_1 dX9_told_52 ?_
      refine td_iload_n 1 dX9_told_55 rfl ?_
      obtain ⟨e56, K⟩ := K
      refine td_ialdc (j := (ix x1)) kp_3 (by decide) e56 rfl dX9_told_56 ?_
      exact td_ireturn rfl dX9_told_57 K
    obtain ⟨K1, K⟩ := K
    by_cases q1 : x2 = 1
    · have K := K1 q1
      refine td_eqs (congrArg (fun z => Value.int z :: []) q1.symm) ?_
      refine td_tsin (tgt := 58) dX9_told_14 (by decide) (by decide) rfl (by decide) ?_
      refine td_aload_n 0 dX9_told_58 rfl ?_
      refine gf_X9_12 rfl kp_0 dX9_told_59 ?_
      refine gf_X9_95 rfl kp_1 dX9_told_62 ?_
      refine td_iload_n 1 dX9_told_65 rfl ?_
      obtain ⟨e66, K⟩ := K
      refine td_ialdc (j := (ix x1)) kp_4 (by decide) e66 rfl dX9_told_66 ?_
      exact td_ireturn rfl dX9_told_67 K
    obtain ⟨K2, K⟩ := K
    by_cases q2 : x2 = 2
    · have K := K2 q2
      refine td_eqs (congrArg (fun z => Value.int z :: []) q2.symm) ?_
      refine td_tsin (tgt := 68) dX9_told_14 (by decide) (by decide) rfl (by decide) ?_
      refine td_aload_n 0 dX9_told_68 rfl ?_
      refine gf_X9_12 rfl kp_0 dX9_told_69 ?_
      refine gf_X9_98 rfl kp_1 dX9_told_72 ?_
      refine td_iload_n 1 dX9_told_75 rfl ?_
      obtain ⟨e76, K⟩ := K
      refine td_ialdc (j := (ix x1)) kp_5 (by decide) e76 rfl dX9_told_76 ?_
      exact td_ireturn rfl dX9_told_77 K
    obtain ⟨K3, K⟩ := K
    by_cases q3 : x2 = 3
    · have K := K3 q3
      refine td_eqs (congrArg (fun z => Value.int z :: []) q3.symm) ?_
      refine td_tsin (tgt := 78) dX9_told_14 (by decide) (by decide) rfl (by decide) ?_
      refine td_aload_n 0 dX9_told_78 rfl ?_
      refine gf_X9_12 rfl kp_0 dX9_told_79 ?_
      refine td_iload_n 1 dX9_told_82 rfl ?_
      exact K
    obtain ⟨K4, K⟩ := K
    by_cases q4 : x2 = 4
    · have K := K4 q4
      refine td_eqs (congrArg (fun z => Value.int z :: []) q4.symm) ?_
      refine td_tsin (tgt := 87) dX9_told_14 (by decide) (by decide) rfl (by decide) ?_
      refine td_aload_n 0 dX9_told_87 rfl ?_
      refine gf_X9_12 rfl kp_0 dX9_told_88 ?_
      refine td_iload_n 1 dX9_told_91 rfl ?_
      exact K
    have K := K ⟨q0, q1, q2, q3, q4⟩
    refine td_tsout (tgt := 96) dX9_told_14 (by have z : ∀ n : Nat, n < 16 → ¬ x2 = nI n → x2.toInt ≠ n := fun n hn e g => e (td_i32 g hn); have z0 := z 0 (by decide) q0; have z1 := z 1 (by decide) q1; have z2 := z 2 (by decide) q2; have z3 := z 3 (by decide) q3; have z4 := z 4 (by decide) q4; omega) (by decide) ?_
    refine td_iconst (v := (-1)) dX9_told_96 (by decide) ?_
    exact td_ireturn rfl dX9_told_97 K
  · have K := Kf q
    refine td_iconst (v := (-1)) dX9_told_11 (by decide) ?_
    exact td_ireturn rfl dX9_told_12 K
set_option maxRecDepth 20000 in
theorem rX9_told_86 {G : td_G} {d : Nat} {Post : td_P} {x1 x2 s0 : Int32} {h : td_H} (K : Post (some (.int s0)) h) : td_J G d mX9_told Post 86 [(0, .ref 0), (1, .int x1), (2, .int x2)] [.int s0] h := by
  exact td_ireturn rfl dX9_told_86 K
set_option maxRecDepth 20000 in
theorem rX9_told_95 {G : td_G} {d : Nat} {Post : td_P} {x1 x2 s0 : Int32} {h : td_H} (K : Post (some (.int s0)) h) : td_J G d mX9_told Post 95 [(0, .ref 0), (1, .int x1), (2, .int x2)] [.int s0] h := by
  exact td_ireturn rfl dX9_told_95 K
set_option maxRecDepth 20000 in
theorem rX9_delay_0 {G : td_G} {d : Nat} {Post : td_P} {x1 x2 : Int32} {h : td_H} (K : td_J G d mX9_delay Post 5 [(0, .ref 0), (1, .int x1), (2, .int x2)] [.int x1, .ref 1] h) : td_J G d mX9_delay Post 0 [(0, .ref 0), (1, .int x1), (2, .int x2)] [] h := by
  refine td_aload_n 0 dX9_delay_0 rfl ?_
  refine gf_X9_12 rfl kp_0 dX9_delay_1 ?_
  refine td_iload_n 1 dX9_delay_4 rfl ?_
  exact K
set_option maxRecDepth 20000 in
theorem rX9_delay_8 {G : td_G} {d : Nat} {Post : td_P} {x1 x2 s0 : Int32} {h : td_H} (K : (s0 = 0 → td_J G d mX9_delay Post 20 [(0, .ref 0), (1, .int x1), (2, .int x2)] [] h) ∧ (¬ s0 = 0 → td_J G d mX9_delay Post 14 [(0, .ref 0), (1, .int x1), (2, .int x2)] [.int 120, .int x2] h)) : td_J G d mX9_delay Post 8 [(0, .ref 0), (1, .int x1), (2, .int x2)] [.int s0] h := by
  obtain ⟨Kt, Kf⟩ := K
  refine td_if_eq (tgt := 20) dX9_delay_8 (by decide) (fun q => ?_) (fun q => ?_)
  · have K := Kt q
    exact K
  · have K := Kf q
    refine td_iload_n 2 dX9_delay_11 rfl ?_
    refine td_bipush (v := 120) dX9_delay_12 (by decide) ?_
    exact K
set_option maxRecDepth 20000 in
theorem rX9_delay_17 {G : td_G} {d : Nat} {Post : td_P} {x1 x2 s0 : Int32} {h : td_H} (K : (¬ s0 = 0 → (vp_in x1 12 ∧ (vp_in x1 12 ∧ (td_J G d mX9_delay Post 43 [(0, .ref 0), (1, .int x1), (2, .int x2), (3, .int (h 3 (ix x1)))] [.ref 0] (hu h 3 (ix x1) x2))))) ∧ (s0 = 0 → td_J G d mX9_delay Post 20 [(0, .ref 0), (1, .int x1), (2, .int x2)] [] h)) : td_J G d mX9_delay Post 17 [(0, .ref 0), (1, .int x1), (2, .int x2)] [.int s0] h := by
  obtain ⟨Kt, Kf⟩ := K
  refine td_if_ne (tgt := 22) dX9_delay_17 (by decide) (fun q => ?_) (fun q => ?_)
  · have K := Kt q
    refine td_aload_n 0 dX9_delay_22 rfl ?_
    refine gf_X9_12 rfl kp_0 dX9_delay_23 ?_
    refine gf_X9_92 rfl kp_1 dX9_delay_26 ?_
    refine td_iload_n 1 dX9_delay_29 rfl ?_
    obtain ⟨e30, K⟩ := K
    refine td_ialdc (j := (ix x1)) kp_3 (by decide) e30 rfl dX9_delay_30 ?_
    refine td_istore_n (lv2 := [(0, .ref 0), (1, .int x1), (2, .int x2), (3, .int (h 3 (ix x1)))]) dX9_delay_31 (by decide) rfl ?_
    refine td_aload_n 0 dX9_delay_32 rfl ?_
    refine gf_X9_12 rfl kp_0 dX9_delay_33 ?_
    refine gf_X9_92 rfl kp_1 dX9_delay_36 ?_
    refine td_iload_n 1 dX9_delay_39 rfl ?_
    refine td_iload_n 2 dX9_delay_40 rfl ?_
    obtain ⟨e41, K⟩ := K
    refine td_iastc (j := (ix x1)) kp_3 (by decide) e41 rfl dX9_delay_41 ?_
    refine td_aload_n 0 dX9_delay_42 rfl ?_
    exact K
  · have K := Kf q
    exact K
set_option maxRecDepth 20000 in
theorem rX9_delay_20 {G : td_G} {d : Nat} {Post : td_P} {x1 x2 : Int32} {h : td_H} (K : Post (some (.int (-1))) h) : td_J G d mX9_delay Post 20 [(0, .ref 0), (1, .int x1), (2, .int x2)] [] h := by
  refine td_iconst (v := (-1)) dX9_delay_20 (by decide) ?_
  exact td_ireturn rfl dX9_delay_21 K
set_option maxRecDepth 20000 in
theorem rX9_delay_46 {G : td_G} {d : Nat} {Post : td_P} {x1 x2 x3 : Int32} {h : td_H} (K : Post (some (.int x3)) h) : td_J G d mX9_delay Post 46 [(0, .ref 0), (1, .int x1), (2, .int x2), (3, .int x3)] [] h := by
  refine td_iload_n 3 dX9_delay_46 rfl ?_
  exact td_ireturn rfl dX9_delay_47 K
set_option maxRecDepth 20000 in
theorem rX9_clear_0 {G : td_G} {d : Nat} {Post : td_P} {h : td_H} (K : td_J G d mX9_clear Post 17 [(0, .ref 0), (1, .int (h 1 4))] [.ref 0] (hu h 1 4 0)) : td_J G d mX9_clear Post 0 [(0, .ref 0)] [] h := by
  refine td_aload_n 0 dX9_clear_0 rfl ?_
  refine gf_X9_12 rfl kp_0 dX9_clear_1 ?_
  refine gf_X9_80 rfl kp_1 dX9_clear_4 ?_
  refine td_istore_n (lv2 := [(0, .ref 0), (1, .int (h 1 4))]) dX9_clear_7 (by decide) rfl ?_
  refine td_aload_n 0 dX9_clear_8 rfl ?_
  refine gf_X9_12 rfl kp_0 dX9_clear_9 ?_
  refine td_iconst (v := 0) dX9_clear_12 (by decide) ?_
  refine pf_X9_80 rfl kp_1 dX9_clear_13 ?_
  refine td_aload_n 0 dX9_clear_16 rfl ?_
  exact K
set_option maxRecDepth 20000 in
theorem rX9_clear_20 {G : td_G} {d : Nat} {Post : td_P} {x1 : Int32} {h : td_H} (K : Post (some (.int x1)) h) : td_J G d mX9_clear Post 20 [(0, .ref 0), (1, .int x1)] [] h := by
  refine td_iload_n 1 dX9_clear_20 rfl ?_
  exact td_ireturn rfl dX9_clear_21 K
set_option maxRecDepth 20000 in
theorem rX9_type_0 {G : td_G} {d : Nat} {Post : td_P} {x3 : Int32} {w1 : Int64} {h : td_H} (K : (x3 < 1 → td_J G d mX9_type Post 19 [(0, .ref 0), (1, .long w1), (3, .int x3)] [] h) ∧ (¬ x3 < 1 → ((8 < x3 → td_J G d mX9_type Post 19 [(0, .ref 0), (1, .long w1), (3, .int x3)] [] h) ∧ (¬ 8 < x3 → td_J G d mX9_type Post 13 [(0, .ref 0), (1, .long w1), (3, .int x3)] [.int x3, .long w1] h)))) : td_J G d mX9_type Post 0 [(0, .ref 0), (1, .long w1), (3, .int x3)] [] h := by
  refine td_iload_n 2 dX9_type_0 rfl ?_
  refine td_iconst (v := 1) dX9_type_1 (by decide) ?_
  obtain ⟨Kt, Kf⟩ := K
  refine td_icmp_lt (tgt := 19) dX9_type_2 (by decide) (fun q => ?_) (fun q => ?_)
  · have K := Kt q
    exact K
  · have K := Kf q
    refine td_iload_n 2 dX9_type_5 rfl ?_
    refine td_bipush (v := 8) dX9_type_6 (by decide) ?_
    obtain ⟨Kt, Kf⟩ := K
    refine td_icmp_gt (tgt := 19) dX9_type_8 (by decide) (fun q => ?_) (fun q => ?_)
    · have K := Kt q
      exact K
    · have K := Kf q
      refine td_lload_n 1 dX9_type_11 rfl ?_
      refine td_iload_n 2 dX9_type_12 rfl ?_
      exact K
set_option maxRecDepth 20000 in
theorem rX9_type_16 {G : td_G} {d : Nat} {Post : td_P} {x3 s0 : Int32} {w1 : Int64} {h : td_H} (K : (¬ s0 = 0 → ((((h 11 4) + x3) ≤ 80 → td_J G d mX9_type Post 44 [(0, .ref 0), (1, .long w1), (3, .int x3)] [.int x3, .long w1, .ref 11] h) ∧ (¬ ((h 11 4) + x3) ≤ 80 → (Post (some (.int (-3))) h)))) ∧ (s0 = 0 → td_J G d mX9_type Post 19 [(0, .ref 0), (1, .long w1), (3, .int x3)] [] h)) : td_J G d mX9_type Post 16 [(0, .ref 0), (1, .long w1), (3, .int x3)] [.int s0] h := by
  obtain ⟨Kt, Kf⟩ := K
  refine td_if_ne (tgt := 21) dX9_type_16 (by decide) (fun q => ?_) (fun q => ?_)
  · have K := Kt q
    refine td_aload_n 0 dX9_type_21 rfl ?_
    refine gf_X9_22 rfl kp_0 dX9_type_22 ?_
    refine gf_X9_112 rfl kp_11 dX9_type_25 ?_
    refine td_iload_n 2 dX9_type_28 rfl ?_
    refine td_iadd dX9_type_29 ?_
    refine td_bipush (v := 80) dX9_type_30 (by decide) ?_
    obtain ⟨Kt, Kf⟩ := K
    refine td_icmp_le (tgt := 38) dX9_type_32 (by decide) (fun q => ?_) (fun q => ?_)
    · have K := Kt q
      refine td_aload_n 0 dX9_type_38 rfl ?_
      refine gf_X9_22 rfl kp_0 dX9_type_39 ?_
      refine td_lload_n 1 dX9_type_42 rfl ?_
      refine td_iload_n 2 dX9_type_43 rfl ?_
      exact K
    · have K := Kf q
      refine td_bipush (v := (-3)) dX9_type_35 (by decide) ?_
      exact td_ireturn rfl dX9_type_37 K
  · have K := Kf q
    exact K
set_option maxRecDepth 20000 in
theorem rX9_type_19 {G : td_G} {d : Nat} {Post : td_P} {x3 : Int32} {w1 : Int64} {h : td_H} (K : Post (some (.int (-1))) h) : td_J G d mX9_type Post 19 [(0, .ref 0), (1, .long w1), (3, .int x3)] [] h := by
  refine td_iconst (v := (-1)) dX9_type_19 (by decide) ?_
  exact td_ireturn rfl dX9_type_20 K
set_option maxRecDepth 20000 in
theorem rX9_type_47 {G : td_G} {d : Nat} {Post : td_P} {x3 : Int32} {w1 : Int64} {h : td_H} (K : Post (some (.int (h 11 4))) h) : td_J G d mX9_type Post 47 [(0, .ref 0), (1, .long w1), (3, .int x3)] [] h := by
  refine td_aload_n 0 dX9_type_47 rfl ?_
  refine gf_X9_22 rfl kp_0 dX9_type_48 ?_
  refine gf_X9_112 rfl kp_11 dX9_type_51 ?_
  exact td_ireturn rfl dX9_type_54 K
set_option maxRecDepth 20000 in
theorem rX9_people_0 {G : td_G} {d : Nat} {Post : td_P} {h : td_H} (K : td_J G d mX9_people Post 4 [(0, .ref 0)] [.ref 11] h) : td_J G d mX9_people Post 0 [(0, .ref 0)] [] h := by
  refine td_aload_n 0 dX9_people_0 rfl ?_
  refine gf_X9_22 rfl kp_0 dX9_people_1 ?_
  exact K
set_option maxRecDepth 20000 in
theorem rX9_people_7 {G : td_G} {d : Nat} {Post : td_P} {s0 : Int32} {h : td_H} (K : (s0 = 0 → (((((hu h 11 4 0) 1 4) + ((hu h 11 4 0) 11 5)) ≤ 12 → td_J G d mX9_people Post 47 [(0, .ref 0), (1, .int s0), (2, .int 0)] [] (hu h 11 4 0)) ∧ (¬ (((hu h 11 4 0) 1 4) + ((hu h 11 4 0) 11 5)) ≤ 12 → (Post (some (.int (-3))) (hu h 11 4 0))))) ∧ (¬ s0 = 0 → (Post (some (.int s0)) (hu h 11 4 0)))) : td_J G d mX9_people Post 7 [(0, .ref 0)] [.int s0] h := by
  refine td_istore_n (lv2 := [(0, .ref 0), (1, .int s0)]) dX9_people_7 (by decide) rfl ?_
  refine td_aload_n 0 dX9_people_8 rfl ?_
  refine gf_X9_22 rfl kp_0 dX9_people_9 ?_
  refine td_iconst (v := 0) dX9_people_12 (by decide) ?_
  refine pf_X9_112 rfl kp_11 dX9_people_13 ?_
  refine td_iload_n 1 dX9_people_16 rfl ?_
  obtain ⟨Kt, Kf⟩ := K
  refine td_if_eq (tgt := 22) dX9_people_17 (by decide) (fun q => ?_) (fun q => ?_)
  · have K := Kt q
    refine td_aload_n 0 dX9_people_22 rfl ?_
    refine gf_X9_12 rfl kp_0 dX9_people_23 ?_
    refine gf_X9_80 rfl kp_1 dX9_people_26 ?_
    refine td_aload_n 0 dX9_people_29 rfl ?_
    refine gf_X9_22 rfl kp_0 dX9_people_30 ?_
    refine gf_X9_123 rfl kp_11 dX9_people_33 ?_
    refine td_iadd dX9_people_36 ?_
    refine td_bipush (v := 12) dX9_people_37 (by decide) ?_
    obtain ⟨Kt, Kf⟩ := K
    refine td_icmp_le (tgt := 45) dX9_people_39 (by decide) (fun q => ?_) (fun q => ?_)
    · have K := Kt q
      refine td_iconst (v := 0) dX9_people_45 (by decide) ?_
      refine td_istore_n (lv2 := [(0, .ref 0), (1, .int s0), (2, .int 0)]) dX9_people_46 (by decide) rfl ?_
      exact K
    · have K := Kf q
      refine td_bipush (v := (-3)) dX9_people_42 (by decide) ?_
      exact td_ireturn rfl dX9_people_44 K
  · have K := Kf q
    refine td_iload_n 1 dX9_people_20 rfl ?_
    exact td_ireturn rfl dX9_people_21 K
set_option maxRecDepth 20000 in
theorem rX9_people_47 {G : td_G} {d : Nat} {Post : td_P} {x1 x2 : Int32} {h : td_H} (K : ((h 11 5) ≤ x2 → td_J G d mX9_people Post 104 [(0, .ref 0), (1, .int x1), (2, .int x2)] [] h) ∧ (¬ (h 11 5) ≤ x2 → ((8 ≤ x2 → td_J G d mX9_people Post 104 [(0, .ref 0), (1, .int x1), (2, .int x2)] [] h) ∧ (¬ 8 ≤ x2 → (vp_in x2 8 ∧ (vp_in x2 8 ∧ (vp_in x2 8 ∧ (td_J G d mX9_people Post 95 [(0, .ref 0), (1, .int x1), (2, .int x2)] [.int (h 15 (ix x2)), .int (h 14 (ix x2)), .int (h 13 (ix x2)), .ref 1] h)))))))) : td_J G d mX9_people Post 47 [(0, .ref 0), (1, .int x1), (2, .int x2)] [] h := by
  refine td_iload_n 2 dX9_people_47 rfl ?_
  refine td_aload_n 0 dX9_people_48 rfl ?_
  refine gf_X9_22 rfl kp_0 dX9_people_49 ?_
  refine gf_X9_123 rfl kp_11 dX9_people_52 ?_
  obtain ⟨Kt, Kf⟩ := K
  refine td_icmp_ge (tgt := 104) dX9_people_55 (by decide) (fun q => ?_) (fun q => ?_)
  · have K := Kt q
    exact K
  · have K := Kf q
    refine td_iload_n 2 dX9_people_58 rfl ?_
    refine td_bipush (v := 8) dX9_people_59 (by decide) ?_
    obtain ⟨Kt, Kf⟩ := K
    refine td_icmp_ge (tgt := 104) dX9_people_61 (by decide) (fun q => ?_) (fun q => ?_)
    · have K := Kt q
      exact K
    · have K := Kf q
      refine td_aload_n 0 dX9_people_64 rfl ?_
      refine gf_X9_12 rfl kp_0 dX9_people_65 ?_
      refine td_aload_n 0 dX9_people_68 rfl ?_
      refine gf_X9_22 rfl kp_0 dX9_people_69 ?_
      refine gf_X9_126 rfl kp_11 dX9_people_72 ?_
      refine td_iload_n 2 dX9_people_75 rfl ?_
      obtain ⟨e76, K⟩ := K
      refine td_ialdc (j := (ix x2)) kp_13 (by decide) e76 rfl dX9_people_76 ?_
      refine td_aload_n 0 dX9_people_77 rfl ?_
      refine gf_X9_22 rfl kp_0 dX9_people_78 ?_
      refine gf_X9_127 rfl kp_11 dX9_people_81 ?_
      refine td_iload_n 2 dX9_people_84 rfl ?_
      obtain ⟨e85, K⟩ := K
      refine td_ialdc (j := (ix x2)) kp_14 (by decide) e85 rfl dX9_people_85 ?_
      refine td_aload_n 0 dX9_people_86 rfl ?_
      refine gf_X9_22 rfl kp_0 dX9_people_87 ?_
      refine gf_X9_128 rfl kp_11 dX9_people_90 ?_
      refine td_iload_n 2 dX9_people_93 rfl ?_
      obtain ⟨e94, K⟩ := K
      refine td_ialdc (j := (ix x2)) kp_15 (by decide) e94 rfl dX9_people_94 ?_
      exact K
set_option maxRecDepth 20000 in
theorem rX9_people_98 {G : td_G} {d : Nat} {Post : td_P} {x1 x2 : Int32} {h : td_H} (K : td_J G d mX9_people Post 47 [(0, .ref 0), (1, .int x1), (2, .int (x2 + 1))] [] h) : td_J G d mX9_people Post 98 [(0, .ref 0), (1, .int x1), (2, .int x2)] [] h := by
  refine td_iinc 2 (v := x2 + 1) (lv2 := [(0, .ref 0), (1, .int x1), (2, .int (x2 + 1))]) dX9_people_98 rfl (congrArg (x2 + ·) (by decide)) (by decide) rfl ?_
  refine td_goto (tgt := 47) dX9_people_101 (by decide) ?_
  exact K
set_option maxRecDepth 20000 in
theorem rX9_people_104 {G : td_G} {d : Nat} {Post : td_P} {x1 x2 : Int32} {h : td_H} (K : td_J G d mX9_people Post 105 [(0, .ref 0), (1, .int x1), (2, .int x2)] [.ref 0] h) : td_J G d mX9_people Post 104 [(0, .ref 0), (1, .int x1), (2, .int x2)] [] h := by
  refine td_aload_n 0 dX9_people_104 rfl ?_
  exact K
set_option maxRecDepth 20000 in
theorem rX9_people_108 {G : td_G} {d : Nat} {Post : td_P} {x1 x2 : Int32} {h : td_H} (K : Post (some (.int (h 11 5))) h) : td_J G d mX9_people Post 108 [(0, .ref 0), (1, .int x1), (2, .int x2)] [] h := by
  refine td_aload_n 0 dX9_people_108 rfl ?_
  refine gf_X9_22 rfl kp_0 dX9_people_109 ?_
  refine gf_X9_123 rfl kp_11 dX9_people_112 ?_
  exact td_ireturn rfl dX9_people_115 K
set_option maxRecDepth 20000 in
theorem rX9_fate_0 {G : td_G} {d : Nat} {Post : td_P} {x1 x2 : Int32} {h : td_H} (K : td_J G d mX9_fate Post 5 [(0, .ref 0), (1, .int x1), (2, .int x2)] [.int x1, .ref 1] h) : td_J G d mX9_fate Post 0 [(0, .ref 0), (1, .int x1), (2, .int x2)] [] h := by
  refine td_aload_n 0 dX9_fate_0 rfl ?_
  refine gf_X9_12 rfl kp_0 dX9_fate_1 ?_
  refine td_iload_n 1 dX9_fate_4 rfl ?_
  exact K
set_option maxRecDepth 20000 in
theorem rX9_fate_8 {G : td_G} {d : Nat} {Post : td_P} {x1 x2 s0 : Int32} {h : td_H} (K : (s0 = 0 → td_J G d mX9_fate Post 19 [(0, .ref 0), (1, .int x1), (2, .int x2)] [] h) ∧ (¬ s0 = 0 → td_J G d mX9_fate Post 13 [(0, .ref 0), (1, .int x1), (2, .int x2)] [.int 4, .int x2] h)) : td_J G d mX9_fate Post 8 [(0, .ref 0), (1, .int x1), (2, .int x2)] [.int s0] h := by
  obtain ⟨Kt, Kf⟩ := K
  refine td_if_eq (tgt := 19) dX9_fate_8 (by decide) (fun q => ?_) (fun q => ?_)
  · have K := Kt q
    exact K
  · have K := Kf q
    refine td_iload_n 2 dX9_fate_11 rfl ?_
    refine td_iconst (v := 4) dX9_fate_12 (by decide) ?_
    exact K
set_option maxRecDepth 20000 in
theorem rX9_fate_16 {G : td_G} {d : Nat} {Post : td_P} {x1 x2 s0 : Int32} {h : td_H} (K : (¬ s0 = 0 → td_J G d mX9_fate Post 22 [(0, .ref 0), (1, .int x1), (2, .int x2)] [.ref 0] h) ∧ (s0 = 0 → td_J G d mX9_fate Post 19 [(0, .ref 0), (1, .int x1), (2, .int x2)] [] h)) : td_J G d mX9_fate Post 16 [(0, .ref 0), (1, .int x1), (2, .int x2)] [.int s0] h := by
  obtain ⟨Kt, Kf⟩ := K
  refine td_if_ne (tgt := 21) dX9_fate_16 (by decide) (fun q => ?_) (fun q => ?_)
  · have K := Kt q
    refine td_aload_n 0 dX9_fate_21 rfl ?_
    exact K
  · have K := Kf q
    exact K
set_option maxRecDepth 20000 in
theorem rX9_fate_19 {G : td_G} {d : Nat} {Post : td_P} {x1 x2 : Int32} {h : td_H} (K : Post (some (.int (-1))) h) : td_J G d mX9_fate Post 19 [(0, .ref 0), (1, .int x1), (2, .int x2)] [] h := by
  refine td_iconst (v := (-1)) dX9_fate_19 (by decide) ?_
  exact td_ireturn rfl dX9_fate_20 K
set_option maxRecDepth 20000 in
theorem rX9_fate_25 {G : td_G} {d : Nat} {Post : td_P} {x1 x2 : Int32} {h : td_H} (K : (x2 = 0 → (vp_in x1 12 ∧ ((120 ≤ (h 25 (ix x1)) → td_J G d mX9_fate Post 82 [(0, .ref 0), (1, .int x1), (2, .int x2), (3, .ref 24)] [.int (-4)] h) ∧ (¬ 120 ≤ (h 25 (ix x1)) → (vp_in x1 12 ∧ (td_J G d mX9_fate Post 82 [(0, .ref 0), (1, .int x1), (2, .int x2), (3, .ref 24)] [.int (h 25 (ix x1))] h)))))) ∧ (x2 = 1 → (vp_in x1 12 ∧ ((120 ≤ (h 27 (ix x1)) → td_J G d mX9_fate Post 105 [(0, .ref 0), (1, .int x1), (2, .int x2), (3, .ref 24)] [.int (-4)] h) ∧ (¬ 120 ≤ (h 27 (ix x1)) → (vp_in x1 12 ∧ (td_J G d mX9_fate Post 105 [(0, .ref 0), (1, .int x1), (2, .int x2), (3, .ref 24)] [.int (h 27 (ix x1))] h)))))) ∧ (x2 = 2 → td_J G d mX9_fate Post 112 [(0, .ref 0), (1, .int x1), (2, .int x2), (3, .ref 24)] [.ref 1, .int x1, .ref 24] h) ∧ (¬ x2 = 0 ∧ ¬ x2 = 1 ∧ ¬ x2 = 2 → (Post (some (.int ((jshr (h 24 5) x1) &&& 1))) h))) : td_J G d mX9_fate Post 25 [(0, .ref 0), (1, .int x1), (2, .int x2)] [] h := by
  refine td_aload_n 0 dX9_fate_25 rfl ?_
  refine gf_X9_35 rfl kp_0 dX9_fate_26 ?_
  refine gf_X9_132 rfl kp_17 dX9_fate_29 ?_
  refine td_astore_n (lv2 := [(0, .ref 0), (1, .int x1), (2, .int x2), (3, .ref 24)]) dX9_fate_32 (by decide) rfl ?_
  refine td_iload_n 2 dX9_fate_33 rfl ?_
  obtain ⟨K0, K⟩ := K
  by_cases q0 : x2 = 0
  · have K := K0 q0
    refine td_eqs (congrArg (fun z => Value.int z :: []) q0.symm) ?_
    refine td_tsin (tgt := 60) dX9_fate_34 (by decide) (by decide) rfl (by decide) ?_
    refine td_aload_n 3 dX9_fate_60 rfl ?_
    refine gf_X9_136 rfl kp_24 dX9_fate_61 ?_
    refine td_iload_n 1 dX9_fate_64 rfl ?_
    obtain ⟨e65, K⟩ := K
    refine td_ialdc (j := (ix x1)) kp_25 (by decide) e65 rfl dX9_fate_65 ?_
    refine td_bipush (v := 120) dX9_fate_66 (by decide) ?_
    obtain ⟨Kt, Kf⟩ := K
    refine td_icmp_ge (tgt := 80) dX9_fate_68 (by decide) (fun q => ?_) (fun q => ?_)
    · have K := Kt q
      refine td_bipush (v := (-4)) dX9_fate_80 (by decide) ?_
      exact K
    · have K := Kf q
      refine td_aload_n 3 dX9_fate_71 rfl ?_
      refine gf_X9_136 rfl kp_24 dX9_fate_72 ?_
      refine td_iload_n 1 dX9_fate_75 rfl ?_
      obtain ⟨e76, K⟩ := K
      refine td_ialdc (j := (ix x1)) kp_25 (by decide) e76 rfl dX9_fate_76 ?_
      refine td_goto (tgt := 82) dX9_fate_77 (by decide) ?_
      exact K
  obtain ⟨K1, K⟩ := K
  by_cases q1 : x2 = 1
  · have K := K1 q1
    refine td_eqs (congrArg (fun z => Value.int z :: []) q1.symm) ?_
    refine td_tsin (tgt := 83) dX9_fate_34 (by decide) (by decide) rfl (by decide) ?_
    refine td_aload_n 3 dX9_fate_83 rfl ?_
    refine gf_X9_141 rfl kp_24 dX9_fate_84 ?_
    refine td_iload_n 1 dX9_fate_87 rfl ?_
    obtain ⟨e88, K⟩ := K
    refine td_ialdc (j := (ix x1)) kp_27 (by decide) e88 rfl dX9_fate_88 ?_
    refine td_bipush (v := 120) dX9_fate_89 (by decide) ?_
    obtain ⟨Kt, Kf⟩ := K
    refine td_icmp_ge (tgt := 103) dX9_fate_91 (by decide) (fun q => ?_) (fun q => ?_)
    · have K := Kt q
      refine td_bipush (v := (-4)) dX9_fate_103 (by decide) ?_
      exact K
    · have K := Kf q
      refine td_aload_n 3 dX9_fate_94 rfl ?_
      refine gf_X9_141 rfl kp_24 dX9_fate_95 ?_
      refine td_iload_n 1 dX9_fate_98 rfl ?_
      obtain ⟨e99, K⟩ := K
      refine td_ialdc (j := (ix x1)) kp_27 (by decide) e99 rfl dX9_fate_99 ?_
      refine td_goto (tgt := 105) dX9_fate_100 (by decide) ?_
      exact K
  obtain ⟨K2, K⟩ := K
  by_cases q2 : x2 = 2
  · have K := K2 q2
    refine td_eqs (congrArg (fun z => Value.int z :: []) q2.symm) ?_
    refine td_tsin (tgt := 106) dX9_fate_34 (by decide) (by decide) rfl (by decide) ?_
    refine td_aload_n 3 dX9_fate_106 rfl ?_
    refine td_iload_n 1 dX9_fate_107 rfl ?_
    refine td_aload_n 0 dX9_fate_108 rfl ?_
    refine gf_X9_12 rfl kp_0 dX9_fate_109 ?_
    exact K
  have K := K ⟨q0, q1, q2⟩
  refine td_tsout (tgt := 116) dX9_fate_34 (by have z : ∀ n : Nat, n < 16 → ¬ x2 = nI n → x2.toInt ≠ n := fun n hn e g => e (td_i32 g hn); have z0 := z 0 (by decide) q0; have z1 := z 1 (by decide) q1; have z2 := z 2 (by decide) q2; omega) (by decide) ?_
  refine td_aload_n 3 dX9_fate_116 rfl ?_
  refine gf_X9_148 rfl kp_24 dX9_fate_117 ?_
  refine td_iload_n 1 dX9_fate_120 rfl ?_
  refine td_ishr dX9_fate_121 ?_
  refine td_iconst (v := 1) dX9_fate_122 (by decide) ?_
  refine td_iand dX9_fate_123 ?_
  exact td_ireturn rfl dX9_fate_124 K
set_option maxRecDepth 20000 in
theorem rX9_fate_82 {G : td_G} {d : Nat} {Post : td_P} {k3 : Nat} {x1 x2 s0 : Int32} {h : td_H} (hk3 : td_kd k3 = 2) (K : Post (some (.int s0)) h) : td_J G d mX9_fate Post 82 [(0, .ref 0), (1, .int x1), (2, .int x2), (3, .ref k3)] [.int s0] h := by
  exact td_ireturn rfl dX9_fate_82 K
set_option maxRecDepth 20000 in
theorem rX9_fate_105 {G : td_G} {d : Nat} {Post : td_P} {k3 : Nat} {x1 x2 s0 : Int32} {h : td_H} (hk3 : td_kd k3 = 2) (K : Post (some (.int s0)) h) : td_J G d mX9_fate Post 105 [(0, .ref 0), (1, .int x1), (2, .int x2), (3, .ref k3)] [.int s0] h := by
  exact td_ireturn rfl dX9_fate_105 K
set_option maxRecDepth 20000 in
theorem rX9_fate_115 {G : td_G} {d : Nat} {Post : td_P} {k3 : Nat} {x1 x2 s0 : Int32} {h : td_H} (hk3 : td_kd k3 = 2) (K : Post (some (.int s0)) h) : td_J G d mX9_fate Post 115 [(0, .ref 0), (1, .int x1), (2, .int x2), (3, .ref k3)] [.int s0] h := by
  exact td_ireturn rfl dX9_fate_115 K
set_option maxRecDepth 20000 in
theorem rX9_at_0 {G : td_G} {d : Nat} {Post : td_P} {x1 x2 : Int32} {h : td_H} (K : td_J G d mX9_at Post 3 [(0, .ref 0), (1, .int x1), (2, .int x2)] [.int 120, .int x1] h) : td_J G d mX9_at Post 0 [(0, .ref 0), (1, .int x1), (2, .int x2)] [] h := by
  refine td_iload_n 1 dX9_at_0 rfl ?_
  refine td_bipush (v := 120) dX9_at_1 (by decide) ?_
  exact K
set_option maxRecDepth 20000 in
theorem rX9_at_6 {G : td_G} {d : Nat} {Post : td_P} {x1 x2 s0 : Int32} {h : td_H} (K : (s0 = 0 → td_J G d mX9_at Post 17 [(0, .ref 0), (1, .int x1), (2, .int x2)] [] h) ∧ (¬ s0 = 0 → td_J G d mX9_at Post 11 [(0, .ref 0), (1, .int x1), (2, .int x2)] [.int 5, .int x2] h)) : td_J G d mX9_at Post 6 [(0, .ref 0), (1, .int x1), (2, .int x2)] [.int s0] h := by
  obtain ⟨Kt, Kf⟩ := K
  refine td_if_eq (tgt := 17) dX9_at_6 (by decide) (fun q => ?_) (fun q => ?_)
  · have K := Kt q
    exact K
  · have K := Kf q
    refine td_iload_n 2 dX9_at_9 rfl ?_
    refine td_iconst (v := 5) dX9_at_10 (by decide) ?_
    exact K
set_option maxRecDepth 20000 in
theorem rX9_at_14 {G : td_G} {d : Nat} {Post : td_P} {x1 x2 s0 : Int32} {h : td_H} (K : (¬ s0 = 0 → td_J G d mX9_at Post 20 [(0, .ref 0), (1, .int x1), (2, .int x2)] [.ref 0] h) ∧ (s0 = 0 → td_J G d mX9_at Post 17 [(0, .ref 0), (1, .int x1), (2, .int x2)] [] h)) : td_J G d mX9_at Post 14 [(0, .ref 0), (1, .int x1), (2, .int x2)] [.int s0] h := by
  obtain ⟨Kt, Kf⟩ := K
  refine td_if_ne (tgt := 19) dX9_at_14 (by decide) (fun q => ?_) (fun q => ?_)
  · have K := Kt q
    refine td_aload_n 0 dX9_at_19 rfl ?_
    exact K
  · have K := Kf q
    exact K
set_option maxRecDepth 20000 in
theorem rX9_at_17 {G : td_G} {d : Nat} {Post : td_P} {x1 x2 : Int32} {h : td_H} (K : Post (some (.int (-1))) h) : td_J G d mX9_at Post 17 [(0, .ref 0), (1, .int x1), (2, .int x2)] [] h := by
  refine td_iconst (v := (-1)) dX9_at_17 (by decide) ?_
  exact td_ireturn rfl dX9_at_18 K
set_option maxRecDepth 20000 in
theorem rX9_at_23 {G : td_G} {d : Nat} {Post : td_P} {x1 x2 : Int32} {h : td_H} (K : (x2 = 0 → (vp_in x1 120 ∧ (Post (some (.int (h 38 (ix x1)))) h))) ∧ (x2 = 1 → (vp_in x1 120 ∧ (Post (some (.int (h 39 (ix x1)))) h))) ∧ (x2 = 2 → td_J G d mX9_at Post 81 [(0, .ref 0), (1, .int x1), (2, .int x2)] [.int x1, .ref 37] h) ∧ (x2 = 3 → (vp_in x1 120 ∧ (Post (some (.int (h 40 (ix x1)))) h))) ∧ (¬ x2 = 0 ∧ ¬ x2 = 1 ∧ ¬ x2 = 2 ∧ ¬ x2 = 3 → (vp_in x1 120 ∧ (Post (some (.int (h 41 (ix x1)))) h)))) : td_J G d mX9_at Post 23 [(0, .ref 0), (1, .int x1), (2, .int x2)] [] h := by
  refine td_iload_n 2 dX9_at_23 rfl ?_
  obtain ⟨K0, K⟩ := K
  by_cases q0 : x2 = 0
  · have K := K0 q0
    refine td_eqs (congrArg (fun z => Value.int z :: []) q0.symm) ?_
    refine td_tsin (tgt := 56) dX9_at_24 (by decide) (by decide) rfl (by decide) ?_
    refine td_aload_n 0 dX9_at_56 rfl ?_
    refine gf_X9_42 rfl kp_0 dX9_at_57 ?_
    refine gf_X9_151 rfl kp_37 dX9_at_60 ?_
    refine td_iload_n 1 dX9_at_63 rfl ?_
    obtain ⟨e64, K⟩ := K
    refine td_ialdc (j := (ix x1)) kp_38 (by decide) e64 rfl dX9_at_64 ?_
    exact td_ireturn rfl dX9_at_65 K
  obtain ⟨K1, K⟩ := K
  by_cases q1 : x2 = 1
  · have K := K1 q1
    refine td_eqs (congrArg (fun z => Value.int z :: []) q1.symm) ?_
    refine td_tsin (tgt := 66) dX9_at_24 (by decide) (by decide) rfl (by decide) ?_
    refine td_aload_n 0 dX9_at_66 rfl ?_
    refine gf_X9_42 rfl kp_0 dX9_at_67 ?_
    refine gf_X9_154 rfl kp_37 dX9_at_70 ?_
    refine td_iload_n 1 dX9_at_73 rfl ?_
    obtain ⟨e74, K⟩ := K
    refine td_ialdc (j := (ix x1)) kp_39 (by decide) e74 rfl dX9_at_74 ?_
    exact td_ireturn rfl dX9_at_75 K
  obtain ⟨K2, K⟩ := K
  by_cases q2 : x2 = 2
  · have K := K2 q2
    refine td_eqs (congrArg (fun z => Value.int z :: []) q2.symm) ?_
    refine td_tsin (tgt := 76) dX9_at_24 (by decide) (by decide) rfl (by decide) ?_
    refine td_aload_n 0 dX9_at_76 rfl ?_
    refine gf_X9_42 rfl kp_0 dX9_at_77 ?_
    refine td_iload_n 1 dX9_at_80 rfl ?_
    exact K
  obtain ⟨K3, K⟩ := K
  by_cases q3 : x2 = 3
  · have K := K3 q3
    refine td_eqs (congrArg (fun z => Value.int z :: []) q3.symm) ?_
    refine td_tsin (tgt := 85) dX9_at_24 (by decide) (by decide) rfl (by decide) ?_
    refine td_aload_n 0 dX9_at_85 rfl ?_
    refine gf_X9_42 rfl kp_0 dX9_at_86 ?_
    refine gf_X9_160 rfl kp_37 dX9_at_89 ?_
    refine td_iload_n 1 dX9_at_92 rfl ?_
    obtain ⟨e93, K⟩ := K
    refine td_ialdc (j := (ix x1)) kp_40 (by decide) e93 rfl dX9_at_93 ?_
    exact td_ireturn rfl dX9_at_94 K
  have K := K ⟨q0, q1, q2, q3⟩
  refine td_tsout (tgt := 95) dX9_at_24 (by have z : ∀ n : Nat, n < 16 → ¬ x2 = nI n → x2.toInt ≠ n := fun n hn e g => e (td_i32 g hn); have z0 := z 0 (by decide) q0; have z1 := z 1 (by decide) q1; have z2 := z 2 (by decide) q2; have z3 := z 3 (by decide) q3; omega) (by decide) ?_
  refine td_aload_n 0 dX9_at_95 rfl ?_
  refine gf_X9_42 rfl kp_0 dX9_at_96 ?_
  refine gf_X9_163 rfl kp_37 dX9_at_99 ?_
  refine td_iload_n 1 dX9_at_102 rfl ?_
  obtain ⟨e103, K⟩ := K
  refine td_ialdc (j := (ix x1)) kp_41 (by decide) e103 rfl dX9_at_103 ?_
  exact td_ireturn rfl dX9_at_104 K
set_option maxRecDepth 20000 in
theorem rX9_at_84 {G : td_G} {d : Nat} {Post : td_P} {x1 x2 s0 : Int32} {h : td_H} (K : Post (some (.int s0)) h) : td_J G d mX9_at Post 84 [(0, .ref 0), (1, .int x1), (2, .int x2)] [.int s0] h := by
  exact td_ireturn rfl dX9_at_84 K
set_option maxRecDepth 20000 in
theorem rX9_within_0 {G : td_G} {d : Nat} {Post : td_P} {x1 x2 : Int32} {h : td_H} (K : td_J G d mX9_within Post 3 [(0, .ref 0), (1, .int x1), (2, .int x2)] [.int 120, .int x1] h) : td_J G d mX9_within Post 0 [(0, .ref 0), (1, .int x1), (2, .int x2)] [] h := by
  refine td_iload_n 1 dX9_within_0 rfl ?_
  refine td_bipush (v := 120) dX9_within_1 (by decide) ?_
  exact K
set_option maxRecDepth 20000 in
theorem rX9_within_6 {G : td_G} {d : Nat} {Post : td_P} {x1 x2 s0 : Int32} {h : td_H} (K : (s0 = 0 → td_J G d mX9_within Post 25 [(0, .ref 0), (1, .int x1), (2, .int x2)] [] h) ∧ (¬ s0 = 0 → td_J G d mX9_within Post 19 [(0, .ref 0), (1, .int x1), (2, .int x2)] [.int (h 2 0), .int x2] h)) : td_J G d mX9_within Post 6 [(0, .ref 0), (1, .int x1), (2, .int x2)] [.int s0] h := by
  obtain ⟨Kt, Kf⟩ := K
  refine td_if_eq (tgt := 25) dX9_within_6 (by decide) (fun q => ?_) (fun q => ?_)
  · have K := Kt q
    exact K
  · have K := Kf q
    refine td_iload_n 2 dX9_within_9 rfl ?_
    refine td_aload_n 0 dX9_within_10 rfl ?_
    refine gf_X9_12 rfl kp_0 dX9_within_11 ?_
    refine gf_X9_65 rfl kp_1 dX9_within_14 ?_
    refine td_iconst (v := 0) dX9_within_17 (by decide) ?_
    refine td_ialdc (j := 0) kp_2 (by decide) (by unfold vp_in; decide) (by decide) dX9_within_18 ?_
    exact K
set_option maxRecDepth 20000 in
theorem rX9_within_22 {G : td_G} {d : Nat} {Post : td_P} {x1 x2 s0 : Int32} {h : td_H} (K : (¬ s0 = 0 → td_J G d mX9_within Post 28 [(0, .ref 0), (1, .int x1), (2, .int x2)] [.ref 0] h) ∧ (s0 = 0 → td_J G d mX9_within Post 25 [(0, .ref 0), (1, .int x1), (2, .int x2)] [] h)) : td_J G d mX9_within Post 22 [(0, .ref 0), (1, .int x1), (2, .int x2)] [.int s0] h := by
  obtain ⟨Kt, Kf⟩ := K
  refine td_if_ne (tgt := 27) dX9_within_22 (by decide) (fun q => ?_) (fun q => ?_)
  · have K := Kt q
    refine td_aload_n 0 dX9_within_27 rfl ?_
    exact K
  · have K := Kf q
    exact K
set_option maxRecDepth 20000 in
theorem rX9_within_25 {G : td_G} {d : Nat} {Post : td_P} {x1 x2 : Int32} {h : td_H} (K : Post (some (.int (-1))) h) : td_J G d mX9_within Post 25 [(0, .ref 0), (1, .int x1), (2, .int x2)] [] h := by
  refine td_iconst (v := (-1)) dX9_within_25 (by decide) ?_
  exact td_ireturn rfl dX9_within_26 K
set_option maxRecDepth 20000 in
theorem rX9_within_31 {G : td_G} {d : Nat} {Post : td_P} {x1 x2 : Int32} {h : td_H} (K : vp_in ((x1 * 4) + x2) 480 ∧ (Post (some (.int (h 42 (ix ((x1 * 4) + x2))))) h)) : td_J G d mX9_within Post 31 [(0, .ref 0), (1, .int x1), (2, .int x2)] [] h := by
  refine td_aload_n 0 dX9_within_31 rfl ?_
  refine gf_X9_42 rfl kp_0 dX9_within_32 ?_
  refine gf_X9_166 rfl kp_37 dX9_within_35 ?_
  refine td_iload_n 1 dX9_within_38 rfl ?_
  refine td_iconst (v := 4) dX9_within_39 (by decide) ?_
  refine td_imul dX9_within_40 ?_
  refine td_iload_n 2 dX9_within_41 rfl ?_
  refine td_iadd dX9_within_42 ?_
  obtain ⟨e43, K⟩ := K
  refine td_ialdc (j := (ix ((x1 * 4) + x2))) kp_42 (by decide) e43 rfl dX9_within_43 ?_
  exact td_ireturn rfl dX9_within_44 K
set_option maxRecDepth 20000 in
theorem rX9_all_0 {G : td_G} {d : Nat} {Post : td_P} {x1 : Int32} {h : td_H} (K : td_J G d mX9_all Post 3 [(0, .ref 0), (1, .int x1)] [.int 7, .int x1] h) : td_J G d mX9_all Post 0 [(0, .ref 0), (1, .int x1)] [] h := by
  refine td_iload_n 1 dX9_all_0 rfl ?_
  refine td_bipush (v := 7) dX9_all_1 (by decide) ?_
  exact K
set_option maxRecDepth 20000 in
theorem rX9_all_6 {G : td_G} {d : Nat} {Post : td_P} {x1 s0 : Int32} {h : td_H} (K : (¬ s0 = 0 → td_J G d mX9_all Post 12 [(0, .ref 0), (1, .int x1)] [.ref 0] h) ∧ (s0 = 0 → (Post (some (.int (-1))) h))) : td_J G d mX9_all Post 6 [(0, .ref 0), (1, .int x1)] [.int s0] h := by
  obtain ⟨Kt, Kf⟩ := K
  refine td_if_ne (tgt := 11) dX9_all_6 (by decide) (fun q => ?_) (fun q => ?_)
  · have K := Kt q
    refine td_aload_n 0 dX9_all_11 rfl ?_
    exact K
  · have K := Kf q
    refine td_iconst (v := (-1)) dX9_all_9 (by decide) ?_
    exact td_ireturn rfl dX9_all_10 K
set_option maxRecDepth 20000 in
theorem rX9_all_15 {G : td_G} {d : Nat} {Post : td_P} {x1 : Int32} {h : td_H} (K : (x1 = 0 → td_J G d mX9_all Post 66 [(0, .ref 0), (1, .int x1)] [.int (h 24 4)] h) ∧ (x1 = 1 → td_J G d mX9_all Post 84 [(0, .ref 0), (1, .int x1)] [.int (h 1 4), .ref 24] h) ∧ (x1 = 2 → td_J G d mX9_all Post 99 [(0, .ref 0), (1, .int x1)] [.ref 1, .ref 24] h) ∧ (x1 = 3 → (Post (some (.int (h 18 11))) h)) ∧ (x1 = 4 → (Post (some (.int (h 18 9))) h)) ∧ (x1 = 5 → td_J G d mX9_all Post 135 [(0, .ref 0), (1, .int x1)] [.int (h 24 5)] h) ∧ (¬ x1 = 0 ∧ ¬ x1 = 1 ∧ ¬ x1 = 2 ∧ ¬ x1 = 3 ∧ ¬ x1 = 4 ∧ ¬ x1 = 5 → (Post (some (.int (h 17 14))) h))) : td_J G d mX9_all Post 15 [(0, .ref 0), (1, .int x1)] [] h := by
  refine td_iload_n 1 dX9_all_15 rfl ?_
  obtain ⟨K0, K⟩ := K
  by_cases q0 : x1 = 0
  · have K := K0 q0
    refine td_eqs (congrArg (fun z => Value.int z :: []) q0.symm) ?_
    refine td_tsin (tgt := 56) dX9_all_16 (by decide) (by decide) rfl (by decide) ?_
    refine td_aload_n 0 dX9_all_56 rfl ?_
    refine gf_X9_35 rfl kp_0 dX9_all_57 ?_
    refine gf_X9_132 rfl kp_17 dX9_all_60 ?_
    refine gf_X9_169 rfl kp_24 dX9_all_63 ?_
    exact K
  obtain ⟨K1, K⟩ := K
  by_cases q1 : x1 = 1
  · have K := K1 q1
    refine td_eqs (congrArg (fun z => Value.int z :: []) q1.symm) ?_
    refine td_tsin (tgt := 70) dX9_all_16 (by decide) (by decide) rfl (by decide) ?_
    refine td_aload_n 0 dX9_all_70 rfl ?_
    refine gf_X9_35 rfl kp_0 dX9_all_71 ?_
    refine gf_X9_132 rfl kp_17 dX9_all_74 ?_
    refine td_aload_n 0 dX9_all_77 rfl ?_
    refine gf_X9_12 rfl kp_0 dX9_all_78 ?_
    refine gf_X9_80 rfl kp_1 dX9_all_81 ?_
    exact K
  obtain ⟨K2, K⟩ := K
  by_cases q2 : x1 = 2
  · have K := K2 q2
    refine td_eqs (congrArg (fun z => Value.int z :: []) q2.symm) ?_
    refine td_tsin (tgt := 88) dX9_all_16 (by decide) (by decide) rfl (by decide) ?_
    refine td_aload_n 0 dX9_all_88 rfl ?_
    refine gf_X9_35 rfl kp_0 dX9_all_89 ?_
    refine gf_X9_132 rfl kp_17 dX9_all_92 ?_
    refine td_aload_n 0 dX9_all_95 rfl ?_
    refine gf_X9_12 rfl kp_0 dX9_all_96 ?_
    exact K
  obtain ⟨K3, K⟩ := K
  by_cases q3 : x1 = 3
  · have K := K3 q3
    refine td_eqs (congrArg (fun z => Value.int z :: []) q3.symm) ?_
    refine td_tsin (tgt := 103) dX9_all_16 (by decide) (by decide) rfl (by decide) ?_
    refine td_aload_n 0 dX9_all_103 rfl ?_
    refine gf_X9_35 rfl kp_0 dX9_all_104 ?_
    refine gf_X9_184 rfl kp_17 dX9_all_107 ?_
    refine gf_X9_188 rfl kp_18 dX9_all_110 ?_
    exact td_ireturn rfl dX9_all_113 K
  obtain ⟨K4, K⟩ := K
  by_cases q4 : x1 = 4
  · have K := K4 q4
    refine td_eqs (congrArg (fun z => Value.int z :: []) q4.symm) ?_
    refine td_tsin (tgt := 114) dX9_all_16 (by decide) (by decide) rfl (by decide) ?_
    refine td_aload_n 0 dX9_all_114 rfl ?_
    refine gf_X9_35 rfl kp_0 dX9_all_115 ?_
    refine gf_X9_184 rfl kp_17 dX9_all_118 ?_
    refine gf_X9_191 rfl kp_18 dX9_all_121 ?_
    exact td_ireturn rfl dX9_all_124 K
  obtain ⟨K5, K⟩ := K
  by_cases q5 : x1 = 5
  · have K := K5 q5
    refine td_eqs (congrArg (fun z => Value.int z :: []) q5.symm) ?_
    refine td_tsin (tgt := 125) dX9_all_16 (by decide) (by decide) rfl (by decide) ?_
    refine td_aload_n 0 dX9_all_125 rfl ?_
    refine gf_X9_35 rfl kp_0 dX9_all_126 ?_
    refine gf_X9_132 rfl kp_17 dX9_all_129 ?_
    refine gf_X9_148 rfl kp_24 dX9_all_132 ?_
    exact K
  have K := K ⟨q0, q1, q2, q3, q4, q5⟩
  refine td_tsout (tgt := 139) dX9_all_16 (by have z : ∀ n : Nat, n < 16 → ¬ x1 = nI n → x1.toInt ≠ n := fun n hn e g => e (td_i32 g hn); have z0 := z 0 (by decide) q0; have z1 := z 1 (by decide) q1; have z2 := z 2 (by decide) q2; have z3 := z 3 (by decide) q3; have z4 := z 4 (by decide) q4; have z5 := z 5 (by decide) q5; omega) (by decide) ?_
  refine td_aload_n 0 dX9_all_139 rfl ?_
  refine gf_X9_35 rfl kp_0 dX9_all_140 ?_
  refine gf_X9_194 rfl kp_17 dX9_all_143 ?_
  exact td_ireturn rfl dX9_all_146 K
set_option maxRecDepth 20000 in
theorem rX9_all_69 {G : td_G} {d : Nat} {Post : td_P} {x1 s0 : Int32} {h : td_H} (K : Post (some (.int s0)) h) : td_J G d mX9_all Post 69 [(0, .ref 0), (1, .int x1)] [.int s0] h := by
  exact td_ireturn rfl dX9_all_69 K
set_option maxRecDepth 20000 in
theorem rX9_all_87 {G : td_G} {d : Nat} {Post : td_P} {x1 s0 : Int32} {h : td_H} (K : Post (some (.int s0)) h) : td_J G d mX9_all Post 87 [(0, .ref 0), (1, .int x1)] [.int s0] h := by
  exact td_ireturn rfl dX9_all_87 K
set_option maxRecDepth 20000 in
theorem rX9_all_102 {G : td_G} {d : Nat} {Post : td_P} {x1 s0 : Int32} {h : td_H} (K : Post (some (.int s0)) h) : td_J G d mX9_all Post 102 [(0, .ref 0), (1, .int x1)] [.int s0] h := by
  exact td_ireturn rfl dX9_all_102 K
set_option maxRecDepth 20000 in
theorem rX9_all_138 {G : td_G} {d : Nat} {Post : td_P} {x1 s0 : Int32} {h : td_H} (K : Post (some (.int s0)) h) : td_J G d mX9_all Post 138 [(0, .ref 0), (1, .int x1)] [.int s0] h := by
  exact td_ireturn rfl dX9_all_138 K
set_option maxRecDepth 20000 in
theorem rX9_count_0 {G : td_G} {d : Nat} {Post : td_P} {x1 : Int32} {h : td_H} (K : td_J G d mX9_count Post 1 [(0, .ref 0), (1, .int x1)] [.int x1] h) : td_J G d mX9_count Post 0 [(0, .ref 0), (1, .int x1)] [] h := by
  refine td_iload_n 1 dX9_count_0 rfl ?_
  exact K
set_option maxRecDepth 20000 in
theorem rX9_count_28 {G : td_G} {d : Nat} {Post : td_P} {x1 : Int32} {h : td_H} (K : Post (some (.int (h 1 4))) h) : td_J G d mX9_count Post 28 [(0, .ref 0), (1, .int x1)] [] h := by
  refine td_aload_n 0 dX9_count_28 rfl ?_
  refine gf_X9_12 rfl kp_0 dX9_count_29 ?_
  refine gf_X9_80 rfl kp_1 dX9_count_32 ?_
  exact td_ireturn rfl dX9_count_35 K
set_option maxRecDepth 20000 in
theorem rX9_count_43 {G : td_G} {d : Nat} {Post : td_P} {x1 s0 : Int32} {h : td_H} (K : Post (some (.int s0)) h) : td_J G d mX9_count Post 43 [(0, .ref 0), (1, .int x1)] [.int s0] h := by
  exact td_ireturn rfl dX9_count_43 K
set_option maxRecDepth 20000 in
theorem rX9_shared_0 {G : td_G} {d : Nat} {Post : td_P} {x1 x2 : Int32} {h : td_H} (K : td_J G d mX9_shared Post 5 [(0, .ref 0), (1, .int x1), (2, .int x2)] [.int x1, .ref 1] h) : td_J G d mX9_shared Post 0 [(0, .ref 0), (1, .int x1), (2, .int x2)] [] h := by
  refine td_aload_n 0 dX9_shared_0 rfl ?_
  refine gf_X9_12 rfl kp_0 dX9_shared_1 ?_
  refine td_iload_n 1 dX9_shared_4 rfl ?_
  exact K
set_option maxRecDepth 20000 in
theorem rX9_shared_8 {G : td_G} {d : Nat} {Post : td_P} {x1 x2 s0 : Int32} {h : td_H} (K : (s0 = 0 → td_J G d mX9_shared Post 27 [(0, .ref 0), (1, .int x1), (2, .int x2)] [] h) ∧ (¬ s0 = 0 → td_J G d mX9_shared Post 16 [(0, .ref 0), (1, .int x1), (2, .int x2)] [.int x2, .ref 1] h)) : td_J G d mX9_shared Post 8 [(0, .ref 0), (1, .int x1), (2, .int x2)] [.int s0] h := by
  obtain ⟨Kt, Kf⟩ := K
  refine td_if_eq (tgt := 27) dX9_shared_8 (by decide) (fun q => ?_) (fun q => ?_)
  · have K := Kt q
    exact K
  · have K := Kf q
    refine td_aload_n 0 dX9_shared_11 rfl ?_
    refine gf_X9_12 rfl kp_0 dX9_shared_12 ?_
    refine td_iload_n 2 dX9_shared_15 rfl ?_
    exact K
set_option maxRecDepth 20000 in
theorem rX9_shared_19 {G : td_G} {d : Nat} {Post : td_P} {x1 x2 s0 : Int32} {h : td_H} (K : (s0 = 0 → td_J G d mX9_shared Post 27 [(0, .ref 0), (1, .int x1), (2, .int x2)] [] h) ∧ (¬ s0 = 0 → ((¬ x1 = x2 → td_J G d mX9_shared Post 30 [(0, .ref 0), (1, .int x1), (2, .int x2)] [.ref 0] h) ∧ (x1 = x2 → td_J G d mX9_shared Post 27 [(0, .ref 0), (1, .int x1), (2, .int x2)] [] h)))) : td_J G d mX9_shared Post 19 [(0, .ref 0), (1, .int x1), (2, .int x2)] [.int s0] h := by
  obtain ⟨Kt, Kf⟩ := K
  refine td_if_eq (tgt := 27) dX9_shared_19 (by decide) (fun q => ?_) (fun q => ?_)
  · have K := Kt q
    exact K
  · have K := Kf q
    refine td_iload_n 1 dX9_shared_22 rfl ?_
    refine td_iload_n 2 dX9_shared_23 rfl ?_
    obtain ⟨Kt, Kf⟩ := K
    refine td_icmp_ne (tgt := 29) dX9_shared_24 (by decide) (fun q => ?_) (fun q => ?_)
    · have K := Kt q
      refine td_aload_n 0 dX9_shared_29 rfl ?_
      exact K
    · have K := Kf q
      exact K
set_option maxRecDepth 20000 in
theorem rX9_shared_27 {G : td_G} {d : Nat} {Post : td_P} {x1 x2 : Int32} {h : td_H} (K : Post (some (.int (-1))) h) : td_J G d mX9_shared Post 27 [(0, .ref 0), (1, .int x1), (2, .int x2)] [] h := by
  refine td_iconst (v := (-1)) dX9_shared_27 (by decide) ?_
  exact td_ireturn rfl dX9_shared_28 K
set_option maxRecDepth 20000 in
theorem rX9_shared_33 {G : td_G} {d : Nat} {Post : td_P} {x1 x2 : Int32} {h : td_H} (K : vp_in x1 12 ∧ (Post (some (.int ((jshr (h 28 (ix x1)) x2) &&& 1))) h)) : td_J G d mX9_shared Post 33 [(0, .ref 0), (1, .int x1), (2, .int x2)] [] h := by
  refine td_aload_n 0 dX9_shared_33 rfl ?_
  refine gf_X9_35 rfl kp_0 dX9_shared_34 ?_
  refine gf_X9_132 rfl kp_17 dX9_shared_37 ?_
  refine gf_X9_200 rfl kp_24 dX9_shared_40 ?_
  refine td_iload_n 1 dX9_shared_43 rfl ?_
  obtain ⟨e44, K⟩ := K
  refine td_ialdc (j := (ix x1)) kp_28 (by decide) e44 rfl dX9_shared_44 ?_
  refine td_iload_n 2 dX9_shared_45 rfl ?_
  refine td_ishr dX9_shared_46 ?_
  refine td_iconst (v := 1) dX9_shared_47 (by decide) ?_
  refine td_iand dX9_shared_48 ?_
  exact td_ireturn rfl dX9_shared_49 K
set_option maxRecDepth 20000 in
theorem rX9_motor_0 {G : td_G} {d : Nat} {Post : td_P} {x1 : Int32} {h : td_H} (K : td_J G d mX9_motor Post 3 [(0, .ref 0), (1, .int x1)] [.int 120, .int x1] h) : td_J G d mX9_motor Post 0 [(0, .ref 0), (1, .int x1)] [] h := by
  refine td_iload_n 1 dX9_motor_0 rfl ?_
  refine td_bipush (v := 120) dX9_motor_1 (by decide) ?_
  exact K
set_option maxRecDepth 20000 in
theorem rX9_motor_6 {G : td_G} {d : Nat} {Post : td_P} {x1 s0 : Int32} {h : td_H} (K : (¬ s0 = 0 → td_J G d mX9_motor Post 20 [(0, .ref 0), (1, .int x1)] [.int x1, .ref 1, .ref 43] h) ∧ (s0 = 0 → (Post (some (.int (-1))) h))) : td_J G d mX9_motor Post 6 [(0, .ref 0), (1, .int x1)] [.int s0] h := by
  obtain ⟨Kt, Kf⟩ := K
  refine td_if_ne (tgt := 11) dX9_motor_6 (by decide) (fun q => ?_) (fun q => ?_)
  · have K := Kt q
    refine td_aload_n 0 dX9_motor_11 rfl ?_
    refine gf_X9_49 rfl kp_0 dX9_motor_12 ?_
    refine td_aload_n 0 dX9_motor_15 rfl ?_
    refine gf_X9_12 rfl kp_0 dX9_motor_16 ?_
    refine td_iload_n 1 dX9_motor_19 rfl ?_
    exact K
  · have K := Kf q
    refine td_iconst (v := (-1)) dX9_motor_9 (by decide) ?_
    exact td_ireturn rfl dX9_motor_10 K
set_option maxRecDepth 20000 in
theorem rX9_motor_23 {G : td_G} {d : Nat} {Post : td_P} {x1 s0 : Int32} {h : td_H} (K : Post (some (.int s0)) h) : td_J G d mX9_motor Post 23 [(0, .ref 0), (1, .int x1)] [.int s0] h := by
  exact td_ireturn rfl dX9_motor_23 K
set_option maxRecDepth 20000 in
theorem rX9_warmest_0 {G : td_G} {d : Nat} {Post : td_P} {x1 x2 : Int32} {h : td_H} (K : td_J G d mX9_warmest Post 3 [(0, .ref 0), (1, .int x1), (2, .int x2)] [.int 120, .int x1] h) : td_J G d mX9_warmest Post 0 [(0, .ref 0), (1, .int x1), (2, .int x2)] [] h := by
  refine td_iload_n 1 dX9_warmest_0 rfl ?_
  refine td_bipush (v := 120) dX9_warmest_1 (by decide) ?_
  exact K
set_option maxRecDepth 20000 in
theorem rX9_warmest_6 {G : td_G} {d : Nat} {Post : td_P} {x1 x2 s0 : Int32} {h : td_H} (K : (s0 = 0 → td_J G d mX9_warmest Post 17 [(0, .ref 0), (1, .int x1), (2, .int x2)] [] h) ∧ (¬ s0 = 0 → td_J G d mX9_warmest Post 11 [(0, .ref 0), (1, .int x1), (2, .int x2)] [.int 4, .int x2] h)) : td_J G d mX9_warmest Post 6 [(0, .ref 0), (1, .int x1), (2, .int x2)] [.int s0] h := by
  obtain ⟨Kt, Kf⟩ := K
  refine td_if_eq (tgt := 17) dX9_warmest_6 (by decide) (fun q => ?_) (fun q => ?_)
  · have K := Kt q
    exact K
  · have K := Kf q
    refine td_iload_n 2 dX9_warmest_9 rfl ?_
    refine td_iconst (v := 4) dX9_warmest_10 (by decide) ?_
    exact K
set_option maxRecDepth 20000 in
theorem rX9_warmest_14 {G : td_G} {d : Nat} {Post : td_P} {x1 x2 s0 : Int32} {h : td_H} (K : (¬ s0 = 0 → td_J G d mX9_warmest Post 27 [(0, .ref 0), (1, .int x1), (2, .int x2)] [.ref 1, .ref 43] h) ∧ (s0 = 0 → td_J G d mX9_warmest Post 17 [(0, .ref 0), (1, .int x1), (2, .int x2)] [] h)) : td_J G d mX9_warmest Post 14 [(0, .ref 0), (1, .int x1), (2, .int x2)] [.int s0] h := by
  obtain ⟨Kt, Kf⟩ := K
  refine td_if_ne (tgt := 19) dX9_warmest_14 (by decide) (fun q => ?_) (fun q => ?_)
  · have K := Kt q
    refine td_aload_n 0 dX9_warmest_19 rfl ?_
    refine gf_X9_49 rfl kp_0 dX9_warmest_20 ?_
    refine td_aload_n 0 dX9_warmest_23 rfl ?_
    refine gf_X9_12 rfl kp_0 dX9_warmest_24 ?_
    exact K
  · have K := Kf q
    exact K
set_option maxRecDepth 20000 in
theorem rX9_warmest_17 {G : td_G} {d : Nat} {Post : td_P} {x1 x2 : Int32} {h : td_H} (K : Post (some (.int (-1))) h) : td_J G d mX9_warmest Post 17 [(0, .ref 0), (1, .int x1), (2, .int x2)] [] h := by
  refine td_iconst (v := (-1)) dX9_warmest_17 (by decide) ?_
  exact td_ireturn rfl dX9_warmest_18 K
set_option maxRecDepth 20000 in
theorem rX9_warmest_30 {G : td_G} {d : Nat} {Post : td_P} {x1 x2 : Int32} {h : td_H} (K : td_J G d mX9_warmest Post 35 [(0, .ref 0), (1, .int x1), (2, .int x2)] [.int x1, .ref 43] h) : td_J G d mX9_warmest Post 30 [(0, .ref 0), (1, .int x1), (2, .int x2)] [] h := by
  refine td_aload_n 0 dX9_warmest_30 rfl ?_
  refine gf_X9_49 rfl kp_0 dX9_warmest_31 ?_
  refine td_iload_n 1 dX9_warmest_34 rfl ?_
  exact K
set_option maxRecDepth 20000 in
theorem rX9_warmest_38 {G : td_G} {d : Nat} {Post : td_P} {x1 x2 s0 : Int32} {h : td_H} (K : (0 ≤ s0 → ((x2 = 0 → td_J G d mX9_warmest Post 73 [(0, .ref 0), (1, .int x1), (2, .int x2), (3, .int s0)] [.int s0] h) ∧ (x2 = 1 → td_J G d mX9_warmest Post 78 [(0, .ref 0), (1, .int x1), (2, .int x2), (3, .int s0)] [.int s0] h) ∧ (x2 = 2 → td_J G d mX9_warmest Post 83 [(0, .ref 0), (1, .int x1), (2, .int x2), (3, .int s0)] [.int s0] h) ∧ (¬ x2 = 0 ∧ ¬ x2 = 1 ∧ ¬ x2 = 2 → td_J G d mX9_warmest Post 92 [(0, .ref 0), (1, .int x1), (2, .int x2), (3, .int s0)] [.int s0, .ref 43] h))) ∧ (¬ 0 ≤ s0 → (Post (some (.int (-4))) h))) : td_J G d mX9_warmest Post 38 [(0, .ref 0), (1, .int x1), (2, .int x2)] [.int s0] h := by
  refine td_istore_n (lv2 := [(0, .ref 0), (1, .int x1), (2, .int x2), (3, .int s0)]) dX9_warmest_38 (by decide) rfl ?_
  refine td_iload_n 3 dX9_warmest_39 rfl ?_
  obtain ⟨Kt, Kf⟩ := K
  refine td_if_ge (tgt := 46) dX9_warmest_40 (by decide) (fun q => ?_) (fun q => ?_)
  · have K := Kt q
    refine td_iload_n 2 dX9_warmest_46 rfl ?_
    obtain ⟨K0, K⟩ := K
    by_cases q0 : x2 = 0
    · have K := K0 q0
      refine td_eqs (congrArg (fun z => Value.int z :: []) q0.symm) ?_
      refine td_tsin (tgt := 72) dX9_warmest_47 (by decide) (by decide) rfl (by decide) ?_
      refine td_iload_n 3 dX9_warmest_72 rfl ?_
      exact K
    obtain ⟨K1, K⟩ := K
    by_cases q1 : x2 = 1
    · have K := K1 q1
      refine td_eqs (congrArg (fun z => Value.int z :: []) q1.symm) ?_
      refine td_tsin (tgt := 77) dX9_warmest_47 (by decide) (by decide) rfl (by decide) ?_
      refine td_iload_n 3 dX9_warmest_77 rfl ?_
      exact K
    obtain ⟨K2, K⟩ := K
    by_cases q2 : x2 = 2
    · have K := K2 q2
      refine td_eqs (congrArg (fun z => Value.int z :: []) q2.symm) ?_
      refine td_tsin (tgt := 82) dX9_warmest_47 (by decide) (by decide) rfl (by decide) ?_
      refine td_iload_n 3 dX9_warmest_82 rfl ?_
      exact K
    have K := K ⟨q0, q1, q2⟩
    refine td_tsout (tgt := 87) dX9_warmest_47 (by have z : ∀ n : Nat, n < 16 → ¬ x2 = nI n → x2.toInt ≠ n := fun n hn e g => e (td_i32 g hn); have z0 := z 0 (by decide) q0; have z1 := z 1 (by decide) q1; have z2 := z 2 (by decide) q2; omega) (by decide) ?_
    refine td_aload_n 0 dX9_warmest_87 rfl ?_
    refine gf_X9_49 rfl kp_0 dX9_warmest_88 ?_
    refine td_iload_n 3 dX9_warmest_91 rfl ?_
    exact K
  · have K := Kf q
    refine td_bipush (v := (-4)) dX9_warmest_43 (by decide) ?_
    exact td_ireturn rfl dX9_warmest_45 K
set_option maxRecDepth 20000 in
theorem rX9_warmest_76 {G : td_G} {d : Nat} {Post : td_P} {x1 x2 x3 s0 : Int32} {h : td_H} (K : Post (some (.int s0)) h) : td_J G d mX9_warmest Post 76 [(0, .ref 0), (1, .int x1), (2, .int x2), (3, .int x3)] [.int s0] h := by
  exact td_ireturn rfl dX9_warmest_76 K
set_option maxRecDepth 20000 in
theorem rX9_warmest_81 {G : td_G} {d : Nat} {Post : td_P} {x1 x2 x3 s0 : Int32} {h : td_H} (K : Post (some (.int s0)) h) : td_J G d mX9_warmest Post 81 [(0, .ref 0), (1, .int x1), (2, .int x2), (3, .int x3)] [.int s0] h := by
  exact td_ireturn rfl dX9_warmest_81 K
set_option maxRecDepth 20000 in
theorem rX9_warmest_86 {G : td_G} {d : Nat} {Post : td_P} {x1 x2 x3 s0 : Int32} {h : td_H} (K : Post (some (.int s0)) h) : td_J G d mX9_warmest Post 86 [(0, .ref 0), (1, .int x1), (2, .int x2), (3, .int x3)] [.int s0] h := by
  exact td_ireturn rfl dX9_warmest_86 K
set_option maxRecDepth 20000 in
theorem rX9_warmest_95 {G : td_G} {d : Nat} {Post : td_P} {x1 x2 x3 s0 : Int32} {h : td_H} (K : Post (some (.int s0)) h) : td_J G d mX9_warmest Post 95 [(0, .ref 0), (1, .int x1), (2, .int x2), (3, .int x3)] [.int s0] h := by
  exact td_ireturn rfl dX9_warmest_95 K
set_option maxRecDepth 20000 in
theorem rX9_orders_0 {G : td_G} {d : Nat} {Post : td_P} {x1 x2 : Int32} {h : td_H} (K : (x1 ≤ 0 → td_J G d mX9_orders Post 15 [(0, .ref 0), (1, .int x1), (2, .int x2)] [] h) ∧ (¬ x1 ≤ 0 → td_J G d mX9_orders Post 9 [(0, .ref 0), (1, .int x1), (2, .int x2)] [.ref 1, .int x1] h)) : td_J G d mX9_orders Post 0 [(0, .ref 0), (1, .int x1), (2, .int x2)] [] h := by
  refine td_iload_n 1 dX9_orders_0 rfl ?_
  obtain ⟨Kt, Kf⟩ := K
  refine td_if_le (tgt := 15) dX9_orders_1 (by decide) (fun q => ?_) (fun q => ?_)
  · have K := Kt q
    exact K
  · have K := Kf q
    refine td_iload_n 1 dX9_orders_4 rfl ?_
    refine td_aload_n 0 dX9_orders_5 rfl ?_
    refine gf_X9_12 rfl kp_0 dX9_orders_6 ?_
    exact K
set_option maxRecDepth 20000 in
theorem rX9_orders_12 {G : td_G} {d : Nat} {Post : td_P} {x1 x2 s0 s1 : Int32} {h : td_H} (K : (s0 ≤ s1 → td_J G d mX9_orders Post 18 [(0, .ref 0), (1, .int x1), (2, .int x2)] [.int x1] h) ∧ (¬ s0 ≤ s1 → td_J G d mX9_orders Post 15 [(0, .ref 0), (1, .int x1), (2, .int x2)] [] h)) : td_J G d mX9_orders Post 12 [(0, .ref 0), (1, .int x1), (2, .int x2)] [.int s1, .int s0] h := by
  obtain ⟨Kt, Kf⟩ := K
  refine td_icmp_le (tgt := 17) dX9_orders_12 (by decide) (fun q => ?_) (fun q => ?_)
  · have K := Kt q
    refine td_iload_n 1 dX9_orders_17 rfl ?_
    exact K
  · have K := Kf q
    exact K
set_option maxRecDepth 20000 in
theorem rX9_orders_15 {G : td_G} {d : Nat} {Post : td_P} {x1 x2 : Int32} {h : td_H} (K : Post (some (.int (-1))) h) : td_J G d mX9_orders Post 15 [(0, .ref 0), (1, .int x1), (2, .int x2)] [] h := by
  refine td_iconst (v := (-1)) dX9_orders_15 (by decide) ?_
  exact td_ireturn rfl dX9_orders_16 K
set_option maxRecDepth 20000 in
theorem rX9_orders_21 {G : td_G} {d : Nat} {Post : td_P} {x1 x2 s0 : Int32} {h : td_H} (K : (6 < s0 → td_J G d mX9_orders Post 39 [(0, .ref 0), (1, .int x1), (2, .int x2), (3, .int s0)] [] h) ∧ (¬ 6 < s0 → ((x2 < (-2) → td_J G d mX9_orders Post 39 [(0, .ref 0), (1, .int x1), (2, .int x2), (3, .int s0)] [] h) ∧ (¬ x2 < (-2) → ((x2 < s0 → td_J G d mX9_orders Post 50 [(0, .ref 0), (1, .int x1), (2, .int x2), (3, .int s0)] [.int x1, .ref 1, .ref 43] h) ∧ (¬ x2 < s0 → td_J G d mX9_orders Post 39 [(0, .ref 0), (1, .int x1), (2, .int x2), (3, .int s0)] [] h)))))) : td_J G d mX9_orders Post 21 [(0, .ref 0), (1, .int x1), (2, .int x2)] [.int s0] h := by
  refine td_istore_n (lv2 := [(0, .ref 0), (1, .int x1), (2, .int x2), (3, .int s0)]) dX9_orders_21 (by decide) rfl ?_
  refine td_iload_n 3 dX9_orders_22 rfl ?_
  refine td_bipush (v := 6) dX9_orders_23 (by decide) ?_
  obtain ⟨Kt, Kf⟩ := K
  refine td_icmp_gt (tgt := 39) dX9_orders_25 (by decide) (fun q => ?_) (fun q => ?_)
  · have K := Kt q
    exact K
  · have K := Kf q
    refine td_iload_n 2 dX9_orders_28 rfl ?_
    refine td_bipush (v := (-2)) dX9_orders_29 (by decide) ?_
    obtain ⟨Kt, Kf⟩ := K
    refine td_icmp_lt (tgt := 39) dX9_orders_31 (by decide) (fun q => ?_) (fun q => ?_)
    · have K := Kt q
      exact K
    · have K := Kf q
      refine td_iload_n 2 dX9_orders_34 rfl ?_
      refine td_iload_n 3 dX9_orders_35 rfl ?_
      obtain ⟨Kt, Kf⟩ := K
      refine td_icmp_lt (tgt := 41) dX9_orders_36 (by decide) (fun q => ?_) (fun q => ?_)
      · have K := Kt q
        refine td_aload_n 0 dX9_orders_41 rfl ?_
        refine gf_X9_49 rfl kp_0 dX9_orders_42 ?_
        refine td_aload_n 0 dX9_orders_45 rfl ?_
        refine gf_X9_12 rfl kp_0 dX9_orders_46 ?_
        refine td_iload_n 1 dX9_orders_49 rfl ?_
        exact K
      · have K := Kf q
        exact K
set_option maxRecDepth 20000 in
theorem rX9_orders_39 {G : td_G} {d : Nat} {Post : td_P} {x1 x2 x3 : Int32} {h : td_H} (K : Post (some (.int (-1))) h) : td_J G d mX9_orders Post 39 [(0, .ref 0), (1, .int x1), (2, .int x2), (3, .int x3)] [] h := by
  refine td_iconst (v := (-1)) dX9_orders_39 (by decide) ?_
  exact td_ireturn rfl dX9_orders_40 K
set_option maxRecDepth 20000 in
theorem rX9_orders_53 {G : td_G} {d : Nat} {Post : td_P} {x1 x2 x3 : Int32} {h : td_H} (K : (¬ x2 = (-1) → ((¬ x2 = (-2) → (vp_in x2 6 ∧ (Post (some (.int (h 71 (ix x2)))) h))) ∧ (x2 = (-2) → (Post (some (.int (h 69 6))) h)))) ∧ (x2 = (-1) → (Post (some (.int (h 69 5))) h))) : td_J G d mX9_orders Post 53 [(0, .ref 0), (1, .int x1), (2, .int x2), (3, .int x3)] [] h := by
  refine td_iload_n 2 dX9_orders_53 rfl ?_
  refine td_iconst (v := (-1)) dX9_orders_54 (by decide) ?_
  obtain ⟨Kt, Kf⟩ := K
  refine td_icmp_ne (tgt := 69) dX9_orders_55 (by decide) (fun q => ?_) (fun q => ?_)
  · have K := Kt q
    refine td_iload_n 2 dX9_orders_69 rfl ?_
    refine td_bipush (v := (-2)) dX9_orders_70 (by decide) ?_
    obtain ⟨Kt, Kf⟩ := K
    refine td_icmp_ne (tgt := 86) dX9_orders_72 (by decide) (fun q => ?_) (fun q => ?_)
    · have K := Kt q
      refine td_aload_n 0 dX9_orders_86 rfl ?_
      refine gf_X9_49 rfl kp_0 dX9_orders_87 ?_
      refine gf_X9_233 rfl kp_43 dX9_orders_90 ?_
      refine gf_X9_245 rfl kp_69 dX9_orders_93 ?_
      refine td_iload_n 2 dX9_orders_96 rfl ?_
      obtain ⟨e97, K⟩ := K
      refine td_ialdc (j := (ix x2)) kp_71 (by decide) e97 rfl dX9_orders_97 ?_
      exact td_ireturn rfl dX9_orders_98 K
    · have K := Kf q
      refine td_aload_n 0 dX9_orders_75 rfl ?_
      refine gf_X9_49 rfl kp_0 dX9_orders_76 ?_
      refine gf_X9_233 rfl kp_43 dX9_orders_79 ?_
      refine gf_X9_242 rfl kp_69 dX9_orders_82 ?_
      exact td_ireturn rfl dX9_orders_85 K
  · have K := Kf q
    refine td_aload_n 0 dX9_orders_58 rfl ?_
    refine gf_X9_49 rfl kp_0 dX9_orders_59 ?_
    refine gf_X9_233 rfl kp_43 dX9_orders_62 ?_
    refine gf_X9_237 rfl kp_69 dX9_orders_65 ?_
    exact td_ireturn rfl dX9_orders_68 K
set_option maxRecDepth 20000 in
theorem rX9_times_0 {G : td_G} {d : Nat} {Post : td_P} {x1 x2 x3 x4 x5 : Int32} {h : td_H} (K : td_J G d mX9_times Post 2 [(0, .ref 0), (1, .int x1), (2, .int x2), (3, .int x3), (4, .int x4), (5, .int x5)] [.int 4, .int x1] h) : td_J G d mX9_times Post 0 [(0, .ref 0), (1, .int x1), (2, .int x2), (3, .int x3), (4, .int x4), (5, .int x5)] [] h := by
  refine td_iload_n 1 dX9_times_0 rfl ?_
  refine td_iconst (v := 4) dX9_times_1 (by decide) ?_
  exact K
set_option maxRecDepth 20000 in
theorem rX9_times_5 {G : td_G} {d : Nat} {Post : td_P} {x1 x2 x3 x4 x5 s0 : Int32} {h : td_H} (K : (s0 = 0 → td_J G d mX9_times Post 38 [(0, .ref 0), (1, .int x1), (2, .int x2), (3, .int x3), (4, .int x4), (5, .int x5)] [] h) ∧ (¬ s0 = 0 → td_J G d mX9_times Post 10 [(0, .ref 0), (1, .int x1), (2, .int x2), (3, .int x3), (4, .int x4), (5, .int x5)] [.int 3, .int x2] h)) : td_J G d mX9_times Post 5 [(0, .ref 0), (1, .int x1), (2, .int x2), (3, .int x3), (4, .int x4), (5, .int x5)] [.int s0] h := by
  obtain ⟨Kt, Kf⟩ := K
  refine td_if_eq (tgt := 38) dX9_times_5 (by decide) (fun q => ?_) (fun q => ?_)
  · have K := Kt q
    exact K
  · have K := Kf q
    refine td_iload_n 2 dX9_times_8 rfl ?_
    refine td_iconst (v := 3) dX9_times_9 (by decide) ?_
    exact K
set_option maxRecDepth 20000 in
theorem rX9_times_13 {G : td_G} {d : Nat} {Post : td_P} {x1 x2 x3 x4 x5 s0 : Int32} {h : td_H} (K : (s0 = 0 → td_J G d mX9_times Post 38 [(0, .ref 0), (1, .int x1), (2, .int x2), (3, .int x3), (4, .int x4), (5, .int x5)] [] h) ∧ (¬ s0 = 0 → ((x4 < 1 → td_J G d mX9_times Post 38 [(0, .ref 0), (1, .int x1), (2, .int x2), (3, .int x3), (4, .int x4), (5, .int x5)] [] h) ∧ (¬ x4 < 1 → ((8 < x4 → td_J G d mX9_times Post 38 [(0, .ref 0), (1, .int x1), (2, .int x2), (3, .int x3), (4, .int x4), (5, .int x5)] [] h) ∧ (¬ 8 < x4 → td_J G d mX9_times Post 32 [(0, .ref 0), (1, .int x1), (2, .int x2), (3, .int x3), (4, .int x4), (5, .int x5)] [.int 3, .int x5] h)))))) : td_J G d mX9_times Post 13 [(0, .ref 0), (1, .int x1), (2, .int x2), (3, .int x3), (4, .int x4), (5, .int x5)] [.int s0] h := by
  obtain ⟨Kt, Kf⟩ := K
  refine td_if_eq (tgt := 38) dX9_times_13 (by decide) (fun q => ?_) (fun q => ?_)
  · have K := Kt q
    exact K
  · have K := Kf q
    refine td_iload 4 dX9_times_16 rfl ?_
    refine td_iconst (v := 1) dX9_times_18 (by decide) ?_
    obtain ⟨Kt, Kf⟩ := K
    refine td_icmp_lt (tgt := 38) dX9_times_19 (by decide) (fun q => ?_) (fun q => ?_)
    · have K := Kt q
      exact K
    · have K := Kf q
      refine td_iload 4 dX9_times_22 rfl ?_
      refine td_bipush (v := 8) dX9_times_24 (by decide) ?_
      obtain ⟨Kt, Kf⟩ := K
      refine td_icmp_gt (tgt := 38) dX9_times_26 (by decide) (fun q => ?_) (fun q => ?_)
      · have K := Kt q
        exact K
      · have K := Kf q
        refine td_iload 5 dX9_times_29 rfl ?_
        refine td_iconst (v := 3) dX9_times_31 (by decide) ?_
        exact K
set_option maxRecDepth 20000 in
theorem rX9_times_35 {G : td_G} {d : Nat} {Post : td_P} {x1 x2 x3 x4 x5 s0 : Int32} {h : td_H} (K : (¬ s0 = 0 → (vp_in x1 4 ∧ (td_J G d mX9_times Post 56 [(0, .ref 0), (1, .int x1), (2, .int x2), (3, .int x3), (4, .int x4), (5, .int x5), (6, .ref (77 + 2 * ix x1))] [.int (2 * x4), .int x3, .int x2, .ref (77 + 2 * ix x1)] h))) ∧ (s0 = 0 → td_J G d mX9_times Post 38 [(0, .ref 0), (1, .int x1), (2, .int x2), (3, .int x3), (4, .int x4), (5, .int x5)] [] h)) : td_J G d mX9_times Post 35 [(0, .ref 0), (1, .int x1), (2, .int x2), (3, .int x3), (4, .int x4), (5, .int x5)] [.int s0] h := by
  obtain ⟨Kt, Kf⟩ := K
  refine td_if_ne (tgt := 40) dX9_times_35 (by decide) (fun q => ?_) (fun q => ?_)
  · have K := Kt q
    refine td_aload_n 0 dX9_times_40 rfl ?_
    refine gf_X9_28 rfl kp_0 dX9_times_41 ?_
    refine td_iload_n 1 dX9_times_44 rfl ?_
    obtain ⟨e45, K⟩ := K
    refine td_aald e45 dX9_times_45 ?_
    refine td_astore (lv2 := [(0, .ref 0), (1, .int x1), (2, .int x2), (3, .int x3), (4, .int x4), (5, .int x5), (6, .ref (77 + 2 * ix x1))]) dX9_times_46 (by decide) rfl ?_
    refine td_aload 6 dX9_times_48 rfl ?_
    refine td_iload_n 2 dX9_times_50 rfl ?_
    refine td_iload_n 3 dX9_times_51 rfl ?_
    refine td_iconst (v := 2) dX9_times_52 (by decide) ?_
    refine td_iload 4 dX9_times_53 rfl ?_
    refine td_imul dX9_times_55 ?_
    exact K
  · have K := Kf q
    exact K
set_option maxRecDepth 20000 in
theorem rX9_times_38 {G : td_G} {d : Nat} {Post : td_P} {x1 x2 x3 x4 x5 : Int32} {h : td_H} (K : Post (some (.int (-1))) h) : td_J G d mX9_times Post 38 [(0, .ref 0), (1, .int x1), (2, .int x2), (3, .int x3), (4, .int x4), (5, .int x5)] [] h := by
  refine td_iconst (v := (-1)) dX9_times_38 (by decide) ?_
  exact td_ireturn rfl dX9_times_39 K
set_option maxRecDepth 20000 in
theorem rX9_times_59 {G : td_G} {d : Nat} {Post : td_P} {k6 : Nat} {x1 x2 x3 x4 x5 s0 : Int32} {h : td_H} (hk6 : td_kd k6 = 6) (K : (s0 = 0 → td_J G d mX9_times Post 72 [(0, .ref 0), (1, .int x1), (2, .int x2), (3, .int x3), (4, .int x4), (5, .int x5), (6, .ref k6), (7, .int s0), (8, .int x3)] [] h) ∧ (¬ s0 = 0 → (Post (some (.int s0)) h))) : td_J G d mX9_times Post 59 [(0, .ref 0), (1, .int x1), (2, .int x2), (3, .int x3), (4, .int x4), (5, .int x5), (6, .ref k6)] [.int s0] h := by
  refine td_istore (lv2 := [(0, .ref 0), (1, .int x1), (2, .int x2), (3, .int x3), (4, .int x4), (5, .int x5), (6, .ref k6), (7, .int s0)]) dX9_times_59 (by decide) rfl ?_
  refine td_iload 7 dX9_times_61 rfl ?_
  obtain ⟨Kt, Kf⟩ := K
  refine td_if_eq (tgt := 69) dX9_times_63 (by decide) (fun q => ?_) (fun q => ?_)
  · have K := Kt q
    refine td_iload_n 3 dX9_times_69 rfl ?_
    refine td_istore (lv2 := [(0, .ref 0), (1, .int x1), (2, .int x2), (3, .int x3), (4, .int x4), (5, .int x5), (6, .ref k6), (7, .int s0), (8, .int x3)]) dX9_times_70 (by decide) rfl ?_
    exact K
  · have K := Kf q
    refine td_iload 7 dX9_times_66 rfl ?_
    exact td_ireturn rfl dX9_times_68 K
set_option maxRecDepth 20000 in
theorem rX9_times_72 {G : td_G} {d : Nat} {Post : td_P} {k6 : Nat} {x1 x2 x3 x4 x5 x7 x8 : Int32} {h : td_H} (hk6 : td_kd k6 = 6) (K : ((x3 + (2 * x4)) ≤ x8 → td_J G d mX9_times Post 134 [(0, .ref 0), (1, .int x1), (2, .int x2), (3, .int x3), (4, .int x4), (5, .int x5), (6, .ref k6), (7, .int x7), (8, .int x8)] [.ref 1, .ref 43] h) ∧ (¬ (x3 + (2 * x4)) ≤ x8 → td_J G d mX9_times Post 91 [(0, .ref 0), (1, .int x1), (2, .int x2), (3, .int x3), (4, .int x4), (5, .int x5), (6, .ref k6), (7, .int x7), (8, .int x8)] [.int x8, .ref k6, .ref 1] h)) : td_J G d mX9_times Post 72 [(0, .ref 0), (1, .int x1), (2, .int x2), (3, .int x3), (4, .int x4), (5, .int x5), (6, .ref k6), (7, .int x7), (8, .int x8)] [] h := by
  refine td_iload 8 dX9_times_72 rfl ?_
  refine td_iload_n 3 dX9_times_74 rfl ?_
  refine td_iconst (v := 2) dX9_times_75 (by decide) ?_
  refine td_iload 4 dX9_times_76 rfl ?_
  refine td_imul dX9_times_78 ?_
  refine td_iadd dX9_times_79 ?_
  obtain ⟨Kt, Kf⟩ := K
  refine td_icmp_ge (tgt := 126) dX9_times_80 (by decide) (fun q => ?_) (fun q => ?_)
  · have K := Kt q
    refine td_aload_n 0 dX9_times_126 rfl ?_
    refine gf_X9_49 rfl kp_0 dX9_times_127 ?_
    refine td_aload_n 0 dX9_times_130 rfl ?_
    refine gf_X9_12 rfl kp_0 dX9_times_131 ?_
    exact K
  · have K := Kf q
    refine td_aload_n 0 dX9_times_83 rfl ?_
    refine gf_X9_12 rfl kp_0 dX9_times_84 ?_
    refine td_aload 6 dX9_times_87 rfl ?_
    refine td_iload 8 dX9_times_89 rfl ?_
    exact K
set_option maxRecDepth 20000 in
theorem rX9_times_97 {G : td_G} {d : Nat} {Post : td_P} {k6 : Nat} {x1 x2 x3 x4 x5 x7 x8 s0 : Int32} {h : td_H} (hk6 : td_kd k6 = 6) (K : (s0 = 0 → td_J G d mX9_times Post 117 [(0, .ref 0), (1, .int x1), (2, .int x2), (3, .int x3), (4, .int x4), (5, .int x5), (6, .ref k6), (7, .int x7), (8, .int x8)] [] h) ∧ (¬ s0 = 0 → td_J G d mX9_times Post 106 [(0, .ref 0), (1, .int x1), (2, .int x2), (3, .int x3), (4, .int x4), (5, .int x5), (6, .ref k6), (7, .int x7), (8, .int x8)] [.int (x8 + 1), .ref k6] h)) : td_J G d mX9_times Post 97 [(0, .ref 0), (1, .int x1), (2, .int x2), (3, .int x3), (4, .int x4), (5, .int x5), (6, .ref k6), (7, .int x7), (8, .int x8)] [.int s0] h := by
  obtain ⟨Kt, Kf⟩ := K
  refine td_if_eq (tgt := 117) dX9_times_97 (by decide) (fun q => ?_) (fun q => ?_)
  · have K := Kt q
    exact K
  · have K := Kf q
    refine td_aload 6 dX9_times_100 rfl ?_
    refine td_iload 8 dX9_times_102 rfl ?_
    refine td_iconst (v := 1) dX9_times_104 (by decide) ?_
    refine td_iadd dX9_times_105 ?_
    exact K
set_option maxRecDepth 20000 in
theorem rX9_times_109 {G : td_G} {d : Nat} {Post : td_P} {k6 : Nat} {x1 x2 x3 x4 x5 x7 x8 s0 : Int32} {h : td_H} (hk6 : td_kd k6 = 6) (K : td_J G d mX9_times Post 111 [(0, .ref 0), (1, .int x1), (2, .int x2), (3, .int x3), (4, .int x4), (5, .int x5), (6, .ref k6), (7, .int x7), (8, .int x8)] [.int 121, .int s0] h) : td_J G d mX9_times Post 109 [(0, .ref 0), (1, .int x1), (2, .int x2), (3, .int x3), (4, .int x4), (5, .int x5), (6, .ref k6), (7, .int x7), (8, .int x8)] [.int s0] h := by
  refine td_bipush (v := 121) dX9_times_109 (by decide) ?_
  exact K
set_option maxRecDepth 20000 in
theorem rX9_times_114 {G : td_G} {d : Nat} {Post : td_P} {k6 : Nat} {x1 x2 x3 x4 x5 x7 x8 s0 : Int32} {h : td_H} (hk6 : td_kd k6 = 6) (K : (¬ s0 = 0 → td_J G d mX9_times Post 72 [(0, .ref 0), (1, .int x1), (2, .int x2), (3, .int x3), (4, .int x4), (5, .int x5), (6, .ref k6), (7, .int x7), (8, .int (x8 + 2))] [] h) ∧ (s0 = 0 → td_J G d mX9_times Post 117 [(0, .ref 0), (1, .int x1), (2, .int x2), (3, .int x3), (4, .int x4), (5, .int x5), (6, .ref k6), (7, .int x7), (8, .int x8)] [] h)) : td_J G d mX9_times Post 114 [(0, .ref 0), (1, .int x1), (2, .int x2), (3, .int x3), (4, .int x4), (5, .int x5), (6, .ref k6), (7, .int x7), (8, .int x8)] [.int s0] h := by
  obtain ⟨Kt, Kf⟩ := K
  refine td_if_ne (tgt := 120) dX9_times_114 (by decide) (fun q => ?_) (fun q => ?_)
  · have K := Kt q
    refine td_iinc 8 (v := x8 + 2) (lv2 := [(0, .ref 0), (1, .int x1), (2, .int x2), (3, .int x3), (4, .int x4), (5, .int x5), (6, .ref k6), (7, .int x7), (8, .int (x8 + 2))]) dX9_times_120 rfl (congrArg (x8 + ·) (by decide)) (by decide) rfl ?_
    refine td_goto (tgt := 72) dX9_times_123 (by decide) ?_
    exact K
  · have K := Kf q
    exact K
set_option maxRecDepth 20000 in
theorem rX9_times_117 {G : td_G} {d : Nat} {Post : td_P} {k6 : Nat} {x1 x2 x3 x4 x5 x7 x8 : Int32} {h : td_H} (hk6 : td_kd k6 = 6) (K : Post (some (.int (-2))) h) : td_J G d mX9_times Post 117 [(0, .ref 0), (1, .int x1), (2, .int x2), (3, .int x3), (4, .int x4), (5, .int x5), (6, .ref k6), (7, .int x7), (8, .int x8)] [] h := by
  refine td_bipush (v := (-2)) dX9_times_117 (by decide) ?_
  exact td_ireturn rfl dX9_times_119 K
set_option maxRecDepth 20000 in
theorem rX9_times_137 {G : td_G} {d : Nat} {Post : td_P} {k6 : Nat} {x1 x2 x3 x4 x5 x7 x8 : Int32} {h : td_H} (hk6 : td_kd k6 = 6) (K : td_J G d mX9_times Post 146 [(0, .ref 0), (1, .int x1), (2, .int x2), (3, .int x3), (4, .int x4), (5, .int x5), (6, .ref k6), (7, .int x7), (8, .int x8)] [.int x4, .int x3, .ref k6, .ref 43] h) : td_J G d mX9_times Post 137 [(0, .ref 0), (1, .int x1), (2, .int x2), (3, .int x3), (4, .int x4), (5, .int x5), (6, .ref k6), (7, .int x7), (8, .int x8)] [] h := by
  refine td_aload_n 0 dX9_times_137 rfl ?_
  refine gf_X9_49 rfl kp_0 dX9_times_138 ?_
  refine td_aload 6 dX9_times_141 rfl ?_
  refine td_iload_n 3 dX9_times_143 rfl ?_
  refine td_iload 4 dX9_times_144 rfl ?_
  exact K
set_option maxRecDepth 20000 in
theorem rX9_times_149 {G : td_G} {d : Nat} {Post : td_P} {k6 : Nat} {x1 x2 x3 x4 x5 x7 x8 s0 : Int32} {h : td_H} (hk6 : td_kd k6 = 6) (K : (¬ x5 = 0 → ((¬ s0 = 0 → ((¬ x5 = 1 → td_J G d mX9_times Post 187 [(0, .ref 0), (1, .int x1), (2, .int x2), (3, .int x3), (4, .int x4), (5, .int x5), (6, .ref k6), (7, .int x7), (8, .int s0)] [.ref 43] h) ∧ (x5 = 1 → td_J G d mX9_times Post 177 [(0, .ref 0), (1, .int x1), (2, .int x2), (3, .int x3), (4, .int x4), (5, .int x5), (6, .ref k6), (7, .int x7), (8, .int s0)] [.ref 43] h))) ∧ (s0 = 0 → (Post (some (.int (-4))) h)))) ∧ (x5 = 0 → (Post (some (.int s0)) h))) : td_J G d mX9_times Post 149 [(0, .ref 0), (1, .int x1), (2, .int x2), (3, .int x3), (4, .int x4), (5, .int x5), (6, .ref k6), (7, .int x7), (8, .int x8)] [.int s0] h := by
  refine td_istore (lv2 := [(0, .ref 0), (1, .int x1), (2, .int x2), (3, .int x3), (4, .int x4), (5, .int x5), (6, .ref k6), (7, .int x7), (8, .int s0)]) dX9_times_149 (by decide) rfl ?_
  refine td_iload 5 dX9_times_151 rfl ?_
  obtain ⟨Kt, Kf⟩ := K
  refine td_if_ne (tgt := 159) dX9_times_153 (by decide) (fun q => ?_) (fun q => ?_)
  · have K := Kt q
    refine td_iload 8 dX9_times_159 rfl ?_
    obtain ⟨Kt, Kf⟩ := K
    refine td_if_ne (tgt := 167) dX9_times_161 (by decide) (fun q => ?_) (fun q => ?_)
    · have K := Kt q
      refine td_iload 5 dX9_times_167 rfl ?_
      refine td_iconst (v := 1) dX9_times_169 (by decide) ?_
      obtain ⟨Kt, Kf⟩ := K
      refine td_icmp_ne (tgt := 183) dX9_times_170 (by decide) (fun q => ?_) (fun q => ?_)
      · have K := Kt q
        refine td_aload_n 0 dX9_times_183 rfl ?_
        refine gf_X9_49 rfl kp_0 dX9_times_184 ?_
        exact K
      · have K := Kf q
        refine td_aload_n 0 dX9_times_173 rfl ?_
        refine gf_X9_49 rfl kp_0 dX9_times_174 ?_
        exact K
    · have K := Kf q
      refine td_bipush (v := (-4)) dX9_times_164 (by decide) ?_
      exact td_ireturn rfl dX9_times_166 K
  · have K := Kf q
    refine td_iload 8 dX9_times_156 rfl ?_
    exact td_ireturn rfl dX9_times_158 K
set_option maxRecDepth 20000 in
theorem rX9_times_180 {G : td_G} {d : Nat} {Post : td_P} {k6 : Nat} {x1 x2 x3 x4 x5 x7 x8 s0 : Int32} {h : td_H} (hk6 : td_kd k6 = 6) (K : td_J G d mX9_times Post 190 [(0, .ref 0), (1, .int x1), (2, .int x2), (3, .int x3), (4, .int x4), (5, .int x5), (6, .ref k6), (7, .int x7), (8, .int x8)] [.int s0] h) : td_J G d mX9_times Post 180 [(0, .ref 0), (1, .int x1), (2, .int x2), (3, .int x3), (4, .int x4), (5, .int x5), (6, .ref k6), (7, .int x7), (8, .int x8)] [.int s0] h := by
  refine td_goto (tgt := 190) dX9_times_180 (by decide) ?_
  exact K
set_option maxRecDepth 20000 in
theorem rX9_times_190 {G : td_G} {d : Nat} {Post : td_P} {k6 : Nat} {x1 x2 x3 x4 x5 x7 x8 s0 : Int32} {h : td_H} (hk6 : td_kd k6 = 6) (K : Post (some (.int s0)) h) : td_J G d mX9_times Post 190 [(0, .ref 0), (1, .int x1), (2, .int x2), (3, .int x3), (4, .int x4), (5, .int x5), (6, .ref k6), (7, .int x7), (8, .int x8)] [.int s0] h := by
  exact td_ireturn rfl dX9_times_190 K
set_option maxRecDepth 20000 in
theorem rX9_without_0 {G : td_G} {d : Nat} {Post : td_P} {x1 : Int32} {h : td_H} (K : td_J G d mX9_without Post 5 [(0, .ref 0), (1, .int x1)] [.int x1, .ref 1] h) : td_J G d mX9_without Post 0 [(0, .ref 0), (1, .int x1)] [] h := by
  refine td_aload_n 0 dX9_without_0 rfl ?_
  refine gf_X9_12 rfl kp_0 dX9_without_1 ?_
  refine td_iload_n 1 dX9_without_4 rfl ?_
  exact K
set_option maxRecDepth 20000 in
theorem rX9_without_8 {G : td_G} {d : Nat} {Post : td_P} {x1 s0 : Int32} {h : td_H} (K : (¬ s0 = 0 → td_J G d mX9_without Post 16 [(0, .ref 0), (1, .int x1)] [.ref 0] h) ∧ (s0 = 0 → (Post (some (.int (-100001))) h))) : td_J G d mX9_without Post 8 [(0, .ref 0), (1, .int x1)] [.int s0] h := by
  obtain ⟨Kt, Kf⟩ := K
  refine td_if_ne (tgt := 15) dX9_without_8 (by decide) (fun q => ?_) (fun q => ?_)
  · have K := Kt q
    refine td_aload_n 0 dX9_without_15 rfl ?_
    exact K
  · have K := Kf q
    refine td_ldcw (v := (-100001)) kw_X9_268 dX9_without_11 ?_
    exact td_ireturn rfl dX9_without_14 K
set_option maxRecDepth 20000 in
theorem rX9_without_19 {G : td_G} {d : Nat} {Post : td_P} {x1 : Int32} {h : td_H} (K : td_J G d mX9_without Post 38 [(0, .ref 0), (1, .int x1)] [.int x1, .ref 1, .ref 43, .int (h 18 11)] h) : td_J G d mX9_without Post 19 [(0, .ref 0), (1, .int x1)] [] h := by
  refine td_aload_n 0 dX9_without_19 rfl ?_
  refine gf_X9_35 rfl kp_0 dX9_without_20 ?_
  refine gf_X9_184 rfl kp_17 dX9_without_23 ?_
  refine gf_X9_188 rfl kp_18 dX9_without_26 ?_
  refine td_aload_n 0 dX9_without_29 rfl ?_
  refine gf_X9_49 rfl kp_0 dX9_without_30 ?_
  refine td_aload_n 0 dX9_without_33 rfl ?_
  refine gf_X9_12 rfl kp_0 dX9_without_34 ?_
  refine td_iload_n 1 dX9_without_37 rfl ?_
  exact K
set_option maxRecDepth 20000 in
theorem rX9_without_41 {G : td_G} {d : Nat} {Post : td_P} {x1 s0 s1 : Int32} {h : td_H} (K : Post (some (.int (s0 - s1))) h) : td_J G d mX9_without Post 41 [(0, .ref 0), (1, .int x1)] [.int s1, .int s0] h := by
  refine td_isub dX9_without_41 ?_
  exact td_ireturn rfl dX9_without_42 K
set_option maxRecDepth 20000 in
theorem rX9_image_0 {G : td_G} {d : Nat} {Post : td_P} {h : td_H} (K : td_J G d mX9_image Post 8 [(0, .ref 0)] [.ref 1, .ref 6] h) : td_J G d mX9_image Post 0 [(0, .ref 0)] [] h := by
  refine td_aload_n 0 dX9_image_0 rfl ?_
  refine gf_X9_16 rfl kp_0 dX9_image_1 ?_
  refine td_aload_n 0 dX9_image_4 rfl ?_
  refine gf_X9_12 rfl kp_0 dX9_image_5 ?_
  exact K
set_option maxRecDepth 20000 in
theorem rX9_image_11 {G : td_G} {d : Nat} {Post : td_P} {h : td_H} (K : Post (some (.int 1)) (hu h 0 7 1)) : td_J G d mX9_image Post 11 [(0, .ref 0)] [] h := by
  refine td_aload_n 0 dX9_image_11 rfl ?_
  refine td_iconst (v := 1) dX9_image_12 (by decide) ?_
  refine pf_X9_275 rfl kp_0 (by decide) dX9_image_13 ?_
  refine td_iconst (v := 1) dX9_image_16 (by decide) ?_
  exact td_ireturn rfl dX9_image_17 K
set_option maxRecDepth 20000 in
theorem rX9_restore_0 {G : td_G} {d : Nat} {Post : td_P} {h : td_H} (K : (¬ (h 0 7) = 0 → td_J G d mX9_restore Post 18 [(0, .ref 0)] [.ref 6, .ref 1] h) ∧ ((h 0 7) = 0 → (Post (some (.int (-4))) h))) : td_J G d mX9_restore Post 0 [(0, .ref 0)] [] h := by
  refine td_aload_n 0 dX9_restore_0 rfl ?_
  refine gf_X9_275 rfl kp_0 dX9_restore_1 ?_
  obtain ⟨Kt, Kf⟩ := K
  refine td_if_ne (tgt := 10) dX9_restore_4 (by decide) (fun q => ?_) (fun q => ?_)
  · have K := Kt q
    refine td_aload_n 0 dX9_restore_10 rfl ?_
    refine gf_X9_12 rfl kp_0 dX9_restore_11 ?_
    refine td_aload_n 0 dX9_restore_14 rfl ?_
    refine gf_X9_16 rfl kp_0 dX9_restore_15 ?_
    exact K
  · have K := Kf q
    refine td_bipush (v := (-4)) dX9_restore_7 (by decide) ?_
    exact td_ireturn rfl dX9_restore_9 K
set_option maxRecDepth 20000 in
theorem rX9_restore_21 {G : td_G} {d : Nat} {Post : td_P} {h : td_H} (K : td_J G d mX9_restore Post 22 [(0, .ref 0)] [.ref 0] h) : td_J G d mX9_restore Post 21 [(0, .ref 0)] [] h := by
  refine td_aload_n 0 dX9_restore_21 rfl ?_
  exact K
set_option maxRecDepth 20000 in
theorem rX9_restore_25 {G : td_G} {d : Nat} {Post : td_P} {h : td_H} (K : Post (some (.int 1)) h) : td_J G d mX9_restore Post 25 [(0, .ref 0)] [] h := by
  refine td_iconst (v := 1) dX9_restore_25 (by decide) ?_
  exact td_ireturn rfl dX9_restore_26 K
set_option maxRecDepth 20000 in
theorem rX9_sheet_0 {G : td_G} {d : Nat} {Post : td_P} {x1 x2 x3 : Int32} {h : td_H} (K : td_J G d mX9_sheet Post 2 [(0, .ref 0), (1, .int x1), (2, .int x2), (3, .int x3)] [.int 4, .int x1] h) : td_J G d mX9_sheet Post 0 [(0, .ref 0), (1, .int x1), (2, .int x2), (3, .int x3)] [] h := by
  refine td_iload_n 1 dX9_sheet_0 rfl ?_
  refine td_iconst (v := 4) dX9_sheet_1 (by decide) ?_
  exact K
set_option maxRecDepth 20000 in
theorem rX9_sheet_5 {G : td_G} {d : Nat} {Post : td_P} {x1 x2 x3 s0 : Int32} {h : td_H} (K : (s0 = 0 → td_J G d mX9_sheet Post 22 [(0, .ref 0), (1, .int x1), (2, .int x2), (3, .int x3)] [] h) ∧ (¬ s0 = 0 → td_J G d mX9_sheet Post 10 [(0, .ref 0), (1, .int x1), (2, .int x2), (3, .int x3)] [.int 3, .int x2] h)) : td_J G d mX9_sheet Post 5 [(0, .ref 0), (1, .int x1), (2, .int x2), (3, .int x3)] [.int s0] h := by
  obtain ⟨Kt, Kf⟩ := K
  refine td_if_eq (tgt := 22) dX9_sheet_5 (by decide) (fun q => ?_) (fun q => ?_)
  · have K := Kt q
    exact K
  · have K := Kf q
    refine td_iload_n 2 dX9_sheet_8 rfl ?_
    refine td_iconst (v := 3) dX9_sheet_9 (by decide) ?_
    exact K
set_option maxRecDepth 20000 in
theorem rX9_sheet_13 {G : td_G} {d : Nat} {Post : td_P} {x1 x2 x3 s0 : Int32} {h : td_H} (K : (s0 = 0 → td_J G d mX9_sheet Post 22 [(0, .ref 0), (1, .int x1), (2, .int x2), (3, .int x3)] [] h) ∧ (¬ s0 = 0 → ((x3 ≤ 16 → ((0 ≤ x3 → (vp_in x1 4 ∧ (td_J G d mX9_sheet Post 39 [(0, .ref 0), (1, .int x1), (2, .int x2), (3, .int x3)] [.int x3, .int x2, .ref (77 + 2 * ix x1)] h))) ∧ (¬ 0 ≤ x3 → (Post (some (.int (-14))) h)))) ∧ (¬ x3 ≤ 16 → td_J G d mX9_sheet Post 22 [(0, .ref 0), (1, .int x1), (2, .int x2), (3, .int x3)] [] h)))) : td_J G d mX9_sheet Post 13 [(0, .ref 0), (1, .int x1), (2, .int x2), (3, .int x3)] [.int s0] h := by
  obtain ⟨Kt, Kf⟩ := K
  refine td_if_eq (tgt := 22) dX9_sheet_13 (by decide) (fun q => ?_) (fun q => ?_)
  · have K := Kt q
    exact K
  · have K := Kf q
    refine td_iload_n 3 dX9_sheet_16 rfl ?_
    refine td_bipush (v := 16) dX9_sheet_17 (by decide) ?_
    obtain ⟨Kt, Kf⟩ := K
    refine td_icmp_le (tgt := 24) dX9_sheet_19 (by decide) (fun q => ?_) (fun q => ?_)
    · have K := Kt q
      refine td_iload_n 3 dX9_sheet_24 rfl ?_
      obtain ⟨Kt, Kf⟩ := K
      refine td_if_ge (tgt := 31) dX9_sheet_25 (by decide) (fun q => ?_) (fun q => ?_)
      · have K := Kt q
        refine td_aload_n 0 dX9_sheet_31 rfl ?_
        refine gf_X9_28 rfl kp_0 dX9_sheet_32 ?_
        refine td_iload_n 1 dX9_sheet_35 rfl ?_
        obtain ⟨e36, K⟩ := K
        refine td_aald e36 dX9_sheet_36 ?_
        refine td_iload_n 2 dX9_sheet_37 rfl ?_
        refine td_iload_n 3 dX9_sheet_38 rfl ?_
        exact K
      · have K := Kf q
        refine td_bipush (v := (-14)) dX9_sheet_28 (by decide) ?_
        exact td_ireturn rfl dX9_sheet_30 K
    · have K := Kf q
      exact K
set_option maxRecDepth 20000 in
theorem rX9_sheet_22 {G : td_G} {d : Nat} {Post : td_P} {x1 x2 x3 : Int32} {h : td_H} (K : Post (some (.int (-1))) h) : td_J G d mX9_sheet Post 22 [(0, .ref 0), (1, .int x1), (2, .int x2), (3, .int x3)] [] h := by
  refine td_iconst (v := (-1)) dX9_sheet_22 (by decide) ?_
  exact td_ireturn rfl dX9_sheet_23 K
set_option maxRecDepth 20000 in
theorem rX9_sheet_42 {G : td_G} {d : Nat} {Post : td_P} {x1 x2 x3 : Int32} {h : td_H} (K : Post (some (.int x3)) h) : td_J G d mX9_sheet Post 42 [(0, .ref 0), (1, .int x1), (2, .int x2), (3, .int x3)] [] h := by
  refine td_iload_n 3 dX9_sheet_42 rfl ?_
  exact td_ireturn rfl dX9_sheet_43 K
set_option maxRecDepth 20000 in
theorem rX9_drop_0 {G : td_G} {d : Nat} {Post : td_P} {x1 : Int32} {h : td_H} (K : td_J G d mX9_drop Post 2 [(0, .ref 0), (1, .int x1)] [.int 4, .int x1] h) : td_J G d mX9_drop Post 0 [(0, .ref 0), (1, .int x1)] [] h := by
  refine td_iload_n 1 dX9_drop_0 rfl ?_
  refine td_iconst (v := 4) dX9_drop_1 (by decide) ?_
  exact K
set_option maxRecDepth 20000 in
theorem rX9_drop_5 {G : td_G} {d : Nat} {Post : td_P} {x1 s0 : Int32} {h : td_H} (K : (¬ s0 = 0 → (vp_in x1 4 ∧ (td_J G d mX9_drop Post 16 [(0, .ref 0), (1, .int x1)] [.ref (77 + 2 * ix x1)] h))) ∧ (s0 = 0 → (Post (some (.int (-1))) h))) : td_J G d mX9_drop Post 5 [(0, .ref 0), (1, .int x1)] [.int s0] h := by
  obtain ⟨Kt, Kf⟩ := K
  refine td_if_ne (tgt := 10) dX9_drop_5 (by decide) (fun q => ?_) (fun q => ?_)
  · have K := Kt q
    refine td_aload_n 0 dX9_drop_10 rfl ?_
    refine gf_X9_28 rfl kp_0 dX9_drop_11 ?_
    refine td_iload_n 1 dX9_drop_14 rfl ?_
    obtain ⟨e15, K⟩ := K
    refine td_aald e15 dX9_drop_15 ?_
    exact K
  · have K := Kf q
    refine td_iconst (v := (-1)) dX9_drop_8 (by decide) ?_
    exact td_ireturn rfl dX9_drop_9 K
set_option maxRecDepth 20000 in
theorem rX9_drop_19 {G : td_G} {d : Nat} {Post : td_P} {x1 s0 : Int32} {h : td_H} (K : (¬ s0 = 0 → (vp_in x1 4 ∧ (td_J G d mX9_drop Post 31 [(0, .ref 0), (1, .int x1)] [.ref (77 + 2 * ix x1)] h))) ∧ (s0 = 0 → (Post (some (.int (-11))) h))) : td_J G d mX9_drop Post 19 [(0, .ref 0), (1, .int x1)] [.int s0] h := by
  obtain ⟨Kt, Kf⟩ := K
  refine td_if_ne (tgt := 25) dX9_drop_19 (by decide) (fun q => ?_) (fun q => ?_)
  · have K := Kt q
    refine td_aload_n 0 dX9_drop_25 rfl ?_
    refine gf_X9_28 rfl kp_0 dX9_drop_26 ?_
    refine td_iload_n 1 dX9_drop_29 rfl ?_
    obtain ⟨e30, K⟩ := K
    refine td_aald e30 dX9_drop_30 ?_
    exact K
  · have K := Kf q
    refine td_bipush (v := (-11)) dX9_drop_22 (by decide) ?_
    exact td_ireturn rfl dX9_drop_24 K
set_option maxRecDepth 20000 in
theorem rX9_drop_34 {G : td_G} {d : Nat} {Post : td_P} {x1 s0 : Int32} {h : td_H} (K : Post (some (.int s0)) h) : td_J G d mX9_drop Post 34 [(0, .ref 0), (1, .int x1)] [.int s0] h := by
  exact td_ireturn rfl dX9_drop_34 K
set_option maxRecDepth 20000 in
theorem rX9_item_0 {G : td_G} {d : Nat} {Post : td_P} {x1 x2 x3 x4 : Int32} {h : td_H} (K : td_J G d mX9_item Post 2 [(0, .ref 0), (1, .int x1), (2, .int x2), (3, .int x3), (4, .int x4)] [.int 4, .int x1] h) : td_J G d mX9_item Post 0 [(0, .ref 0), (1, .int x1), (2, .int x2), (3, .int x3), (4, .int x4)] [] h := by
  refine td_iload_n 1 dX9_item_0 rfl ?_
  refine td_iconst (v := 4) dX9_item_1 (by decide) ?_
  exact K
set_option maxRecDepth 20000 in
theorem rX9_item_5 {G : td_G} {d : Nat} {Post : td_P} {x1 x2 x3 x4 s0 : Int32} {h : td_H} (K : (s0 = 0 → td_J G d mX9_item Post 16 [(0, .ref 0), (1, .int x1), (2, .int x2), (3, .int x3), (4, .int x4)] [] h) ∧ (¬ s0 = 0 → td_J G d mX9_item Post 10 [(0, .ref 0), (1, .int x1), (2, .int x2), (3, .int x3), (4, .int x4)] [.int 3, .int x2] h)) : td_J G d mX9_item Post 5 [(0, .ref 0), (1, .int x1), (2, .int x2), (3, .int x3), (4, .int x4)] [.int s0] h := by
  obtain ⟨Kt, Kf⟩ := K
  refine td_if_eq (tgt := 16) dX9_item_5 (by decide) (fun q => ?_) (fun q => ?_)
  · have K := Kt q
    exact K
  · have K := Kf q
    refine td_iload_n 2 dX9_item_8 rfl ?_
    refine td_iconst (v := 3) dX9_item_9 (by decide) ?_
    exact K
set_option maxRecDepth 20000 in
theorem rX9_item_13 {G : td_G} {d : Nat} {Post : td_P} {x1 x2 x3 x4 s0 : Int32} {h : td_H} (K : (¬ s0 = 0 → (vp_in x1 4 ∧ (td_J G d mX9_item Post 27 [(0, .ref 0), (1, .int x1), (2, .int x2), (3, .int x3), (4, .int x4)] [.int 1, .int x3, .int x2, .ref (77 + 2 * ix x1)] h))) ∧ (s0 = 0 → td_J G d mX9_item Post 16 [(0, .ref 0), (1, .int x1), (2, .int x2), (3, .int x3), (4, .int x4)] [] h)) : td_J G d mX9_item Post 13 [(0, .ref 0), (1, .int x1), (2, .int x2), (3, .int x3), (4, .int x4)] [.int s0] h := by
  obtain ⟨Kt, Kf⟩ := K
  refine td_if_ne (tgt := 18) dX9_item_13 (by decide) (fun q => ?_) (fun q => ?_)
  · have K := Kt q
    refine td_aload_n 0 dX9_item_18 rfl ?_
    refine gf_X9_28 rfl kp_0 dX9_item_19 ?_
    refine td_iload_n 1 dX9_item_22 rfl ?_
    obtain ⟨e23, K⟩ := K
    refine td_aald e23 dX9_item_23 ?_
    refine td_iload_n 2 dX9_item_24 rfl ?_
    refine td_iload_n 3 dX9_item_25 rfl ?_
    refine td_iconst (v := 1) dX9_item_26 (by decide) ?_
    exact K
  · have K := Kf q
    exact K
set_option maxRecDepth 20000 in
theorem rX9_item_16 {G : td_G} {d : Nat} {Post : td_P} {x1 x2 x3 x4 : Int32} {h : td_H} (K : Post (some (.int (-1))) h) : td_J G d mX9_item Post 16 [(0, .ref 0), (1, .int x1), (2, .int x2), (3, .int x3), (4, .int x4)] [] h := by
  refine td_iconst (v := (-1)) dX9_item_16 (by decide) ?_
  exact td_ireturn rfl dX9_item_17 K
set_option maxRecDepth 20000 in
theorem rX9_item_30 {G : td_G} {d : Nat} {Post : td_P} {x1 x2 x3 x4 s0 : Int32} {h : td_H} (K : (s0 = 0 → (vp_in x1 4 ∧ (td_J G d mX9_item Post 49 [(0, .ref 0), (1, .int x1), (2, .int x2), (3, .int x3), (4, .int x4), (5, .int s0)] [.int x4, .int x3, .ref (77 + 2 * ix x1)] h))) ∧ (¬ s0 = 0 → (Post (some (.int s0)) h))) : td_J G d mX9_item Post 30 [(0, .ref 0), (1, .int x1), (2, .int x2), (3, .int x3), (4, .int x4)] [.int s0] h := by
  refine td_istore (lv2 := [(0, .ref 0), (1, .int x1), (2, .int x2), (3, .int x3), (4, .int x4), (5, .int s0)]) dX9_item_30 (by decide) rfl ?_
  refine td_iload 5 dX9_item_32 rfl ?_
  obtain ⟨Kt, Kf⟩ := K
  refine td_if_eq (tgt := 40) dX9_item_34 (by decide) (fun q => ?_) (fun q => ?_)
  · have K := Kt q
    refine td_aload_n 0 dX9_item_40 rfl ?_
    refine gf_X9_28 rfl kp_0 dX9_item_41 ?_
    refine td_iload_n 1 dX9_item_44 rfl ?_
    obtain ⟨e45, K⟩ := K
    refine td_aald e45 dX9_item_45 ?_
    refine td_iload_n 3 dX9_item_46 rfl ?_
    refine td_iload 4 dX9_item_47 rfl ?_
    exact K
  · have K := Kf q
    refine td_iload 5 dX9_item_37 rfl ?_
    exact td_ireturn rfl dX9_item_39 K
set_option maxRecDepth 20000 in
theorem rX9_item_52 {G : td_G} {d : Nat} {Post : td_P} {x1 x2 x3 x4 x5 : Int32} {h : td_H} (K : Post (some (.int 1)) h) : td_J G d mX9_item Post 52 [(0, .ref 0), (1, .int x1), (2, .int x2), (3, .int x3), (4, .int x4), (5, .int x5)] [] h := by
  refine td_iconst (v := 1) dX9_item_52 (by decide) ?_
  exact td_ireturn rfl dX9_item_53 K
set_option maxRecDepth 20000 in
theorem rX9_film_0 {G : td_G} {d : Nat} {Post : td_P} {x1 x2 x3 : Int32} {h : td_H} (K : td_J G d mX9_film Post 2 [(0, .ref 0), (1, .int x1), (2, .int x2), (3, .int x3)] [.int 4, .int x1] h) : td_J G d mX9_film Post 0 [(0, .ref 0), (1, .int x1), (2, .int x2), (3, .int x3)] [] h := by
  refine td_iload_n 1 dX9_film_0 rfl ?_
  refine td_iconst (v := 4) dX9_film_1 (by decide) ?_
  exact K
set_option maxRecDepth 20000 in
theorem rX9_film_5 {G : td_G} {d : Nat} {Post : td_P} {x1 x2 x3 s0 : Int32} {h : td_H} (K : (s0 = 0 → td_J G d mX9_film Post 16 [(0, .ref 0), (1, .int x1), (2, .int x2), (3, .int x3)] [] h) ∧ (¬ s0 = 0 → td_J G d mX9_film Post 10 [(0, .ref 0), (1, .int x1), (2, .int x2), (3, .int x3)] [.int 3, .int x2] h)) : td_J G d mX9_film Post 5 [(0, .ref 0), (1, .int x1), (2, .int x2), (3, .int x3)] [.int s0] h := by
  obtain ⟨Kt, Kf⟩ := K
  refine td_if_eq (tgt := 16) dX9_film_5 (by decide) (fun q => ?_) (fun q => ?_)
  · have K := Kt q
    exact K
  · have K := Kf q
    refine td_iload_n 2 dX9_film_8 rfl ?_
    refine td_iconst (v := 3) dX9_film_9 (by decide) ?_
    exact K
set_option maxRecDepth 20000 in
theorem rX9_film_13 {G : td_G} {d : Nat} {Post : td_P} {x1 x2 x3 s0 : Int32} {h : td_H} (K : (¬ s0 = 0 → (vp_in x1 4 ∧ (td_J G d mX9_film Post 33 [(0, .ref 0), (1, .int x1), (2, .int x2), (3, .int x3)] [.int (h 1 4), .int x3, .int x2, .ref (77 + 2 * ix x1)] h))) ∧ (s0 = 0 → td_J G d mX9_film Post 16 [(0, .ref 0), (1, .int x1), (2, .int x2), (3, .int x3)] [] h)) : td_J G d mX9_film Post 13 [(0, .ref 0), (1, .int x1), (2, .int x2), (3, .int x3)] [.int s0] h := by
  obtain ⟨Kt, Kf⟩ := K
  refine td_if_ne (tgt := 18) dX9_film_13 (by decide) (fun q => ?_) (fun q => ?_)
  · have K := Kt q
    refine td_aload_n 0 dX9_film_18 rfl ?_
    refine gf_X9_28 rfl kp_0 dX9_film_19 ?_
    refine td_iload_n 1 dX9_film_22 rfl ?_
    obtain ⟨e23, K⟩ := K
    refine td_aald e23 dX9_film_23 ?_
    refine td_iload_n 2 dX9_film_24 rfl ?_
    refine td_iload_n 3 dX9_film_25 rfl ?_
    refine td_aload_n 0 dX9_film_26 rfl ?_
    refine gf_X9_12 rfl kp_0 dX9_film_27 ?_
    refine gf_X9_80 rfl kp_1 dX9_film_30 ?_
    exact K
  · have K := Kf q
    exact K
set_option maxRecDepth 20000 in
theorem rX9_film_16 {G : td_G} {d : Nat} {Post : td_P} {x1 x2 x3 : Int32} {h : td_H} (K : Post (some (.int (-1))) h) : td_J G d mX9_film Post 16 [(0, .ref 0), (1, .int x1), (2, .int x2), (3, .int x3)] [] h := by
  refine td_iconst (v := (-1)) dX9_film_16 (by decide) ?_
  exact td_ireturn rfl dX9_film_17 K
set_option maxRecDepth 20000 in
theorem rX9_film_36 {G : td_G} {d : Nat} {Post : td_P} {x1 x2 x3 s0 : Int32} {h : td_H} (K : (s0 = 0 → td_J G d mX9_film Post 47 [(0, .ref 0), (1, .int x1), (2, .int x2), (3, .int x3), (4, .int s0)] [.ref 0] h) ∧ (¬ s0 = 0 → (Post (some (.int s0)) h))) : td_J G d mX9_film Post 36 [(0, .ref 0), (1, .int x1), (2, .int x2), (3, .int x3)] [.int s0] h := by
  refine td_istore (lv2 := [(0, .ref 0), (1, .int x1), (2, .int x2), (3, .int x3), (4, .int s0)]) dX9_film_36 (by decide) rfl ?_
  refine td_iload 4 dX9_film_38 rfl ?_
  obtain ⟨Kt, Kf⟩ := K
  refine td_if_eq (tgt := 46) dX9_film_40 (by decide) (fun q => ?_) (fun q => ?_)
  · have K := Kt q
    refine td_aload_n 0 dX9_film_46 rfl ?_
    exact K
  · have K := Kf q
    refine td_iload 4 dX9_film_43 rfl ?_
    exact td_ireturn rfl dX9_film_45 K
set_option maxRecDepth 20000 in
theorem rX9_film_50 {G : td_G} {d : Nat} {Post : td_P} {x1 x2 x3 x4 : Int32} {h : td_H} (K : td_J G d mX9_film Post 53 [(0, .ref 0), (1, .int x1), (2, .int x2), (3, .int x3), (4, .int x4), (5, .int 0)] [] h) : td_J G d mX9_film Post 50 [(0, .ref 0), (1, .int x1), (2, .int x2), (3, .int x3), (4, .int x4)] [] h := by
  refine td_iconst (v := 0) dX9_film_50 (by decide) ?_
  refine td_istore (lv2 := [(0, .ref 0), (1, .int x1), (2, .int x2), (3, .int x3), (4, .int x4), (5, .int 0)]) dX9_film_51 (by decide) rfl ?_
  exact K
set_option maxRecDepth 20000 in
theorem rX9_film_53 {G : td_G} {d : Nat} {Post : td_P} {x1 x2 x3 x4 x5 : Int32} {h : td_H} (K : ((h 1 4) ≤ x5 → (Post (some (.int (h 1 4))) h)) ∧ (¬ (h 1 4) ≤ x5 → (vp_in x1 4 ∧ (vp_in x5 12 ∧ (td_J G d mX9_film Post 88 [(0, .ref 0), (1, .int x1), (2, .int x2), (3, .int x3), (4, .int x4), (5, .int x5)] [.int (h 27 (ix x5)), .int (x3 + x5), .ref (77 + 2 * ix x1)] h))))) : td_J G d mX9_film Post 53 [(0, .ref 0), (1, .int x1), (2, .int x2), (3, .int x3), (4, .int x4), (5, .int x5)] [] h := by
  refine td_iload 5 dX9_film_53 rfl ?_
  refine td_aload_n 0 dX9_film_55 rfl ?_
  refine gf_X9_12 rfl kp_0 dX9_film_56 ?_
  refine gf_X9_80 rfl kp_1 dX9_film_59 ?_
  obtain ⟨Kt, Kf⟩ := K
  refine td_icmp_ge (tgt := 97) dX9_film_62 (by decide) (fun q => ?_) (fun q => ?_)
  · have K := Kt q
    refine td_aload_n 0 dX9_film_97 rfl ?_
    refine gf_X9_12 rfl kp_0 dX9_film_98 ?_
    refine gf_X9_80 rfl kp_1 dX9_film_101 ?_
    exact td_ireturn rfl dX9_film_104 K
  · have K := Kf q
    refine td_aload_n 0 dX9_film_65 rfl ?_
    refine gf_X9_28 rfl kp_0 dX9_film_66 ?_
    refine td_iload_n 1 dX9_film_69 rfl ?_
    obtain ⟨e70, K⟩ := K
    refine td_aald e70 dX9_film_70 ?_
    refine td_iload_n 3 dX9_film_71 rfl ?_
    refine td_iload 5 dX9_film_72 rfl ?_
    refine td_iadd dX9_film_74 ?_
    refine td_aload_n 0 dX9_film_75 rfl ?_
    refine gf_X9_35 rfl kp_0 dX9_film_76 ?_
    refine gf_X9_132 rfl kp_17 dX9_film_79 ?_
    refine gf_X9_141 rfl kp_24 dX9_film_82 ?_
    refine td_iload 5 dX9_film_85 rfl ?_
    obtain ⟨e87, K⟩ := K
    refine td_ialdc (j := (ix x5)) kp_27 (by decide) e87 rfl dX9_film_87 ?_
    exact K
set_option maxRecDepth 20000 in
theorem rX9_film_91 {G : td_G} {d : Nat} {Post : td_P} {x1 x2 x3 x4 x5 : Int32} {h : td_H} (K : td_J G d mX9_film Post 53 [(0, .ref 0), (1, .int x1), (2, .int x2), (3, .int x3), (4, .int x4), (5, .int (x5 + 1))] [] h) : td_J G d mX9_film Post 91 [(0, .ref 0), (1, .int x1), (2, .int x2), (3, .int x3), (4, .int x4), (5, .int x5)] [] h := by
  refine td_iinc 5 (v := x5 + 1) (lv2 := [(0, .ref 0), (1, .int x1), (2, .int x2), (3, .int x3), (4, .int x4), (5, .int (x5 + 1))]) dX9_film_91 rfl (congrArg (x5 + ·) (by decide)) (by decide) rfl ?_
  refine td_goto (tgt := 53) dX9_film_94 (by decide) ?_
  exact K
set_option maxRecDepth 20000 in
theorem rX9_isIn_0 {G : td_G} {d : Nat} {Post : td_P} {x0 x1 : Int32} {h : td_H} (K : (x0 < 0 → td_J G d mX9_isIn Post 13 [(0, .int x0), (1, .int x1)] [] h) ∧ (¬ x0 < 0 → ((x1 ≤ x0 → td_J G d mX9_isIn Post 13 [(0, .int x0), (1, .int x1)] [] h) ∧ (¬ x1 ≤ x0 → td_J G d mX9_isIn Post 14 [(0, .int x0), (1, .int x1)] [.int 1] h)))) : td_J G d mX9_isIn Post 0 [(0, .int x0), (1, .int x1)] [] h := by
  refine td_iload_n 0 dX9_isIn_0 rfl ?_
  obtain ⟨Kt, Kf⟩ := K
  refine td_if_lt (tgt := 13) dX9_isIn_1 (by decide) (fun q => ?_) (fun q => ?_)
  · have K := Kt q
    exact K
  · have K := Kf q
    refine td_iload_n 0 dX9_isIn_4 rfl ?_
    refine td_iload_n 1 dX9_isIn_5 rfl ?_
    obtain ⟨Kt, Kf⟩ := K
    refine td_icmp_ge (tgt := 13) dX9_isIn_6 (by decide) (fun q => ?_) (fun q => ?_)
    · have K := Kt q
      exact K
    · have K := Kf q
      refine td_iconst (v := 1) dX9_isIn_9 (by decide) ?_
      refine td_goto (tgt := 14) dX9_isIn_10 (by decide) ?_
      exact K
set_option maxRecDepth 20000 in
theorem rX9_isIn_13 {G : td_G} {d : Nat} {Post : td_P} {x0 x1 : Int32} {h : td_H} (K : td_J G d mX9_isIn Post 14 [(0, .int x0), (1, .int x1)] [.int 0] h) : td_J G d mX9_isIn Post 13 [(0, .int x0), (1, .int x1)] [] h := by
  refine td_iconst (v := 0) dX9_isIn_13 (by decide) ?_
  exact K
set_option maxRecDepth 20000 in
theorem rX9_isIn_14 {G : td_G} {d : Nat} {Post : td_P} {x0 x1 s0 : Int32} {h : td_H} (K : (s0 = 0 ∨ s0 = 1) ∧ Post (some (.int s0)) h) : td_J G d mX9_isIn Post 14 [(0, .int x0), (1, .int x1)] [.int s0] h := by
  obtain ⟨e14, K⟩ := K
  exact td_zreturn rfl (td_nb e14) dX9_isIn_14 K
set_option maxRecDepth 20000 in
theorem rX9_forget_0 {G : td_G} {d : Nat} {Post : td_P} {h : td_H} (K : td_J G d mX9_forget Post 9 [(0, .ref 0)] [.ref 43] (hu h 0 8 0)) : td_J G d mX9_forget Post 0 [(0, .ref 0)] [] h := by
  refine td_aload_n 0 dX9_forget_0 rfl ?_
  refine td_iconst (v := 0) dX9_forget_1 (by decide) ?_
  refine pf_X9_293 rfl kp_0 (by decide) dX9_forget_2 ?_
  refine td_aload_n 0 dX9_forget_5 rfl ?_
  refine gf_X9_49 rfl kp_0 dX9_forget_6 ?_
  exact K
set_option maxRecDepth 20000 in
theorem rX9_forget_12 {G : td_G} {d : Nat} {Post : td_P} {h : td_H} (K : Post none h) : td_J G d mX9_forget Post 12 [(0, .ref 0)] [] h := by
  exact td_return rfl dX9_forget_12 K
set_option maxRecDepth 20000 in
theorem rX9_play_0 {G : td_G} {d : Nat} {Post : td_P} {h : td_H} (K : ((h 0 8) = 0 → td_J G d mX9_play Post 20 [(0, .ref 0)] [.ref 1, .ref 1, .ref 17] h) ∧ (¬ (h 0 8) = 0 → (Post none h))) : td_J G d mX9_play Post 0 [(0, .ref 0)] [] h := by
  refine td_aload_n 0 dX9_play_0 rfl ?_
  refine gf_X9_293 rfl kp_0 dX9_play_1 ?_
  obtain ⟨Kt, Kf⟩ := K
  refine td_if_eq (tgt := 8) dX9_play_4 (by decide) (fun q => ?_) (fun q => ?_)
  · have K := Kt q
    refine td_aload_n 0 dX9_play_8 rfl ?_
    refine gf_X9_35 rfl kp_0 dX9_play_9 ?_
    refine td_aload_n 0 dX9_play_12 rfl ?_
    refine gf_X9_12 rfl kp_0 dX9_play_13 ?_
    refine td_aload_n 0 dX9_play_16 rfl ?_
    refine gf_X9_12 rfl kp_0 dX9_play_17 ?_
    exact K
  · have K := Kf q
    exact td_return rfl dX9_play_7 K
set_option maxRecDepth 20000 in
theorem rX9_play_26 {G : td_G} {d : Nat} {Post : td_P} {h : td_H} (K : td_J G d mX9_play Post 28 [(0, .ref 0), (1, .int 0)] [] h) : td_J G d mX9_play Post 26 [(0, .ref 0)] [] h := by
  refine td_iconst (v := 0) dX9_play_26 (by decide) ?_
  refine td_istore_n (lv2 := [(0, .ref 0), (1, .int 0)]) dX9_play_27 (by decide) rfl ?_
  exact K
set_option maxRecDepth 20000 in
theorem rX9_play_28 {G : td_G} {d : Nat} {Post : td_P} {x1 : Int32} {h : td_H} (K : (120 ≤ x1 → (Post none (hu h 0 8 1))) ∧ (¬ 120 ≤ x1 → td_J G d mX9_play Post 39 [(0, .ref 0), (1, .int x1)] [.int x1, .ref 17] h)) : td_J G d mX9_play Post 28 [(0, .ref 0), (1, .int x1)] [] h := by
  refine td_iload_n 1 dX9_play_28 rfl ?_
  refine td_bipush (v := 120) dX9_play_29 (by decide) ?_
  obtain ⟨Kt, Kf⟩ := K
  refine td_icmp_ge (tgt := 60) dX9_play_31 (by decide) (fun q => ?_) (fun q => ?_)
  · have K := Kt q
    refine td_aload_n 0 dX9_play_60 rfl ?_
    refine td_iconst (v := 1) dX9_play_61 (by decide) ?_
    refine pf_X9_293 rfl kp_0 (by decide) dX9_play_62 ?_
    exact td_return rfl dX9_play_65 K
  · have K := Kf q
    refine td_aload_n 0 dX9_play_34 rfl ?_
    refine gf_X9_35 rfl kp_0 dX9_play_35 ?_
    refine td_iload_n 1 dX9_play_38 rfl ?_
    exact K
set_option maxRecDepth 20000 in
theorem rX9_play_42 {G : td_G} {d : Nat} {Post : td_P} {x1 : Int32} {h : td_H} (K : td_J G d mX9_play Post 51 [(0, .ref 0), (1, .int x1)] [.ref 17, .int x1, .ref 37] h) : td_J G d mX9_play Post 42 [(0, .ref 0), (1, .int x1)] [] h := by
  refine td_aload_n 0 dX9_play_42 rfl ?_
  refine gf_X9_42 rfl kp_0 dX9_play_43 ?_
  refine td_iload_n 1 dX9_play_46 rfl ?_
  refine td_aload_n 0 dX9_play_47 rfl ?_
  refine gf_X9_35 rfl kp_0 dX9_play_48 ?_
  exact K
set_option maxRecDepth 20000 in
theorem rX9_play_54 {G : td_G} {d : Nat} {Post : td_P} {x1 : Int32} {h : td_H} (K : td_J G d mX9_play Post 28 [(0, .ref 0), (1, .int (x1 + 1))] [] h) : td_J G d mX9_play Post 54 [(0, .ref 0), (1, .int x1)] [] h := by
  refine td_iinc 1 (v := x1 + 1) (lv2 := [(0, .ref 0), (1, .int (x1 + 1))]) dX9_play_54 rfl (congrArg (x1 + ·) (by decide)) (by decide) rfl ?_
  refine td_goto (tgt := 28) dX9_play_57 (by decide) ?_
  exact K
