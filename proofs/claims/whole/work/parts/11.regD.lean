set_option maxRecDepth 20000 in
theorem rX1_sectorsInMouth_0 {G : td_G} {d : Nat} {Post : td_P} {x0 x1 x2 x3 : Int32} {h : td_H} (K : (¬ x0 = 3 → td_J G d mX1_sectorsInMouth Post 10 [(0, .int x0), (1, .int x1), (2, .int x2), (3, .int x3)] [.int 3] h) ∧ (x0 = 3 → td_J G d mX1_sectorsInMouth Post 10 [(0, .int x0), (1, .int x1), (2, .int x2), (3, .int x3)] [.int 4] h)) : td_J G d mX1_sectorsInMouth Post 0 [(0, .int x0), (1, .int x1), (2, .int x2), (3, .int x3)] [] h := by
  refine td_iload_n 0 dX1_sectorsInMouth_0 rfl ?_
  refine td_iconst (v := 3) dX1_sectorsInMouth_1 (by decide) ?_
  obtain ⟨Kt, Kf⟩ := K
  refine td_icmp_ne (tgt := 9) dX1_sectorsInMouth_2 (by decide) (fun q => ?_) (fun q => ?_)
  · have K := Kt q
    refine td_iconst (v := 3) dX1_sectorsInMouth_9 (by decide) ?_
    exact K
  · have K := Kf q
    refine td_iconst (v := 4) dX1_sectorsInMouth_5 (by decide) ?_
    refine td_goto (tgt := 10) dX1_sectorsInMouth_6 (by decide) ?_
    exact K
set_option maxRecDepth 20000 in
theorem rX1_sectorsInMouth_10 {G : td_G} {d : Nat} {Post : td_P} {x0 x1 x2 x3 s0 : Int32} {h : td_H} (K : (¬ x2 = 1 → td_J G d mX1_sectorsInMouth Post 29 [(0, .int x0), (1, .int x1), (2, .int x2), (3, .int x3), (4, .int s0)] [.int 0, .int (x3 + (x1 * s0))] h) ∧ (x2 = 1 → td_J G d mX1_sectorsInMouth Post 29 [(0, .int x0), (1, .int x1), (2, .int x2), (3, .int x3), (4, .int s0)] [.int 6, .int (x3 + (x1 * s0))] h)) : td_J G d mX1_sectorsInMouth Post 10 [(0, .int x0), (1, .int x1), (2, .int x2), (3, .int x3)] [.int s0] h := by
  refine td_istore (lv2 := [(0, .int x0), (1, .int x1), (2, .int x2), (3, .int x3), (4, .int s0)]) dX1_sectorsInMouth_10 (by decide) rfl ?_
  refine td_iload_n 3 dX1_sectorsInMouth_12 rfl ?_
  refine td_iload_n 1 dX1_sectorsInMouth_13 rfl ?_
  refine td_iload 4 dX1_sectorsInMouth_14 rfl ?_
  refine td_imul dX1_sectorsInMouth_16 ?_
  refine td_iadd dX1_sectorsInMouth_17 ?_
  refine td_iload_n 2 dX1_sectorsInMouth_18 rfl ?_
  refine td_iconst (v := 1) dX1_sectorsInMouth_19 (by decide) ?_
  obtain ⟨Kt, Kf⟩ := K
  refine td_icmp_ne (tgt := 28) dX1_sectorsInMouth_20 (by decide) (fun q => ?_) (fun q => ?_)
  · have K := Kt q
    refine td_iconst (v := 0) dX1_sectorsInMouth_28 (by decide) ?_
    exact K
  · have K := Kf q
    refine td_bipush (v := 6) dX1_sectorsInMouth_23 (by decide) ?_
    refine td_goto (tgt := 29) dX1_sectorsInMouth_25 (by decide) ?_
    exact K
set_option maxRecDepth 20000 in
theorem rX1_sectorsInMouth_29 {G : td_G} {d : Nat} {Post : td_P} {x0 x1 x2 x3 x4 s0 s1 : Int32} {h : td_H} (K : td_J G d mX1_sectorsInMouth Post 38 [(0, .int x0), (1, .int x1), (2, .int x2), (3, .int x3), (4, .int x4), (5, .int (s0 + s1)), (6, .int 0), (7, .int 0)] [] h) : td_J G d mX1_sectorsInMouth Post 29 [(0, .int x0), (1, .int x1), (2, .int x2), (3, .int x3), (4, .int x4)] [.int s1, .int s0] h := by
  refine td_iadd dX1_sectorsInMouth_29 ?_
  refine td_istore (lv2 := [(0, .int x0), (1, .int x1), (2, .int x2), (3, .int x3), (4, .int x4), (5, .int (s0 + s1))]) dX1_sectorsInMouth_30 (by decide) rfl ?_
  refine td_iconst (v := 0) dX1_sectorsInMouth_32 (by decide) ?_
  refine td_istore (lv2 := [(0, .int x0), (1, .int x1), (2, .int x2), (3, .int x3), (4, .int x4), (5, .int (s0 + s1)), (6, .int 0)]) dX1_sectorsInMouth_33 (by decide) rfl ?_
  refine td_iconst (v := 0) dX1_sectorsInMouth_35 (by decide) ?_
  refine td_istore (lv2 := [(0, .int x0), (1, .int x1), (2, .int x2), (3, .int x3), (4, .int x4), (5, .int (s0 + s1)), (6, .int 0), (7, .int 0)]) dX1_sectorsInMouth_36 (by decide) rfl ?_
  exact K
set_option maxRecDepth 20000 in
theorem rX1_sectorsInMouth_38 {G : td_G} {d : Nat} {Post : td_P} {x0 x1 x2 x3 x4 x5 x6 x7 : Int32} {h : td_H} (K : (x4 ≤ x7 → (Post (some (.int x6)) h)) ∧ (¬ x4 ≤ x7 → ((3 ≤ (jrem (x5 + x7) 12) → td_J G d mX1_sectorsInMouth Post 60 [(0, .int x0), (1, .int x1), (2, .int x2), (3, .int x3), (4, .int x4), (5, .int x5), (6, .int x6), (7, .int x7)] [] h) ∧ (¬ 3 ≤ (jrem (x5 + x7) 12) → td_J G d mX1_sectorsInMouth Post 60 [(0, .int x0), (1, .int x1), (2, .int x2), (3, .int x3), (4, .int x4), (5, .int x5), (6, .int (x6 + 1)), (7, .int x7)] [] h)))) : td_J G d mX1_sectorsInMouth Post 38 [(0, .int x0), (1, .int x1), (2, .int x2), (3, .int x3), (4, .int x4), (5, .int x5), (6, .int x6), (7, .int x7)] [] h := by
  refine td_iload 7 dX1_sectorsInMouth_38 rfl ?_
  refine td_iload 4 dX1_sectorsInMouth_40 rfl ?_
  obtain ⟨Kt, Kf⟩ := K
  refine td_icmp_ge (tgt := 66) dX1_sectorsInMouth_42 (by decide) (fun q => ?_) (fun q => ?_)
  · have K := Kt q
    refine td_iload 6 dX1_sectorsInMouth_66 rfl ?_
    exact td_ireturn rfl dX1_sectorsInMouth_68 K
  · have K := Kf q
    refine td_iload 5 dX1_sectorsInMouth_45 rfl ?_
    refine td_iload 7 dX1_sectorsInMouth_47 rfl ?_
    refine td_iadd dX1_sectorsInMouth_49 ?_
    refine td_bipush (v := 12) dX1_sectorsInMouth_50 (by decide) ?_
    refine td_irem dX1_sectorsInMouth_52 (by decide) ?_
    refine td_iconst (v := 3) dX1_sectorsInMouth_53 (by decide) ?_
    obtain ⟨Kt, Kf⟩ := K
    refine td_icmp_ge (tgt := 60) dX1_sectorsInMouth_54 (by decide) (fun q => ?_) (fun q => ?_)
    · have K := Kt q
      exact K
    · have K := Kf q
      refine td_iinc 6 (v := x6 + 1) (lv2 := [(0, .int x0), (1, .int x1), (2, .int x2), (3, .int x3), (4, .int x4), (5, .int x5), (6, .int (x6 + 1)), (7, .int x7)]) dX1_sectorsInMouth_57 rfl (congrArg (x6 + ·) (by decide)) (by decide) rfl ?_
      exact K
set_option maxRecDepth 20000 in
theorem rX1_sectorsInMouth_60 {G : td_G} {d : Nat} {Post : td_P} {x0 x1 x2 x3 x4 x5 x6 x7 : Int32} {h : td_H} (K : td_J G d mX1_sectorsInMouth Post 38 [(0, .int x0), (1, .int x1), (2, .int x2), (3, .int x3), (4, .int x4), (5, .int x5), (6, .int x6), (7, .int (x7 + 1))] [] h) : td_J G d mX1_sectorsInMouth Post 60 [(0, .int x0), (1, .int x1), (2, .int x2), (3, .int x3), (4, .int x4), (5, .int x5), (6, .int x6), (7, .int x7)] [] h := by
  refine td_iinc 7 (v := x7 + 1) (lv2 := [(0, .int x0), (1, .int x1), (2, .int x2), (3, .int x3), (4, .int x4), (5, .int x5), (6, .int x6), (7, .int (x7 + 1))]) dX1_sectorsInMouth_60 rfl (congrArg (x7 + ·) (by decide)) (by decide) rfl ?_
  refine td_goto (tgt := 38) dX1_sectorsInMouth_63 (by decide) ?_
  exact K
set_option maxRecDepth 20000 in
theorem rX1_openParts_0 {G : td_G} {d : Nat} {Post : td_P} {x0 x1 x2 x3 : Int32} {h : td_H} (K : td_J G d mX1_openParts Post 6 [(0, .int x0), (1, .int x1), (2, .int x2), (3, .int x3), (4, .int 0), (5, .int 0)] [] h) : td_J G d mX1_openParts Post 0 [(0, .int x0), (1, .int x1), (2, .int x2), (3, .int x3)] [] h := by
  refine td_iconst (v := 0) dX1_openParts_0 (by decide) ?_
  refine td_istore (lv2 := [(0, .int x0), (1, .int x1), (2, .int x2), (3, .int x3), (4, .int 0)]) dX1_openParts_1 (by decide) rfl ?_
  refine td_iconst (v := 0) dX1_openParts_3 (by decide) ?_
  refine td_istore (lv2 := [(0, .int x0), (1, .int x1), (2, .int x2), (3, .int x3), (4, .int 0), (5, .int 0)]) dX1_openParts_4 (by decide) rfl ?_
  exact K
set_option maxRecDepth 20000 in
theorem rX1_openParts_6 {G : td_G} {d : Nat} {Post : td_P} {x0 x1 x2 x3 x4 x5 : Int32} {h : td_H} (K : (x0 ≤ x5 → (Post (some (.int x4)) h)) ∧ (¬ x0 ≤ x5 → td_J G d mX1_openParts Post 17 [(0, .int x0), (1, .int x1), (2, .int x2), (3, .int x3), (4, .int x4), (5, .int x5)] [.int x3, .int x2, .int x5, .int x0] h)) : td_J G d mX1_openParts Post 6 [(0, .int x0), (1, .int x1), (2, .int x2), (3, .int x3), (4, .int x4), (5, .int x5)] [] h := by
  refine td_iload 5 dX1_openParts_6 rfl ?_
  refine td_iload_n 0 dX1_openParts_8 rfl ?_
  obtain ⟨Kt, Kf⟩ := K
  refine td_icmp_ge (tgt := 39) dX1_openParts_9 (by decide) (fun q => ?_) (fun q => ?_)
  · have K := Kt q
    refine td_iload 4 dX1_openParts_39 rfl ?_
    exact td_ireturn rfl dX1_openParts_41 K
  · have K := Kf q
    refine td_iload_n 0 dX1_openParts_12 rfl ?_
    refine td_iload 5 dX1_openParts_13 rfl ?_
    refine td_iload_n 2 dX1_openParts_15 rfl ?_
    refine td_iload_n 3 dX1_openParts_16 rfl ?_
    exact K
set_option maxRecDepth 20000 in
theorem rX1_openParts_20 {G : td_G} {d : Nat} {Post : td_P} {x0 x1 x2 x3 x4 x5 s0 : Int32} {h : td_H} (K : (s0 < x1 → td_J G d mX1_openParts Post 33 [(0, .int x0), (1, .int x1), (2, .int x2), (3, .int x3), (4, .int x4), (5, .int x5)] [] h) ∧ (¬ s0 < x1 → td_J G d mX1_openParts Post 33 [(0, .int x0), (1, .int x1), (2, .int x2), (3, .int x3), (4, .int (x4 ||| (jshl 1 x5))), (5, .int x5)] [] h)) : td_J G d mX1_openParts Post 20 [(0, .int x0), (1, .int x1), (2, .int x2), (3, .int x3), (4, .int x4), (5, .int x5)] [.int s0] h := by
  refine td_iload_n 1 dX1_openParts_20 rfl ?_
  obtain ⟨Kt, Kf⟩ := K
  refine td_icmp_lt (tgt := 33) dX1_openParts_21 (by decide) (fun q => ?_) (fun q => ?_)
  · have K := Kt q
    exact K
  · have K := Kf q
    refine td_iload 4 dX1_openParts_24 rfl ?_
    refine td_iconst (v := 1) dX1_openParts_26 (by decide) ?_
    refine td_iload 5 dX1_openParts_27 rfl ?_
    refine td_ishl dX1_openParts_29 ?_
    refine td_ior dX1_openParts_30 ?_
    refine td_istore (lv2 := [(0, .int x0), (1, .int x1), (2, .int x2), (3, .int x3), (4, .int (x4 ||| (jshl 1 x5))), (5, .int x5)]) dX1_openParts_31 (by decide) rfl ?_
    exact K
set_option maxRecDepth 20000 in
theorem rX1_openParts_33 {G : td_G} {d : Nat} {Post : td_P} {x0 x1 x2 x3 x4 x5 : Int32} {h : td_H} (K : td_J G d mX1_openParts Post 6 [(0, .int x0), (1, .int x1), (2, .int x2), (3, .int x3), (4, .int x4), (5, .int (x5 + 1))] [] h) : td_J G d mX1_openParts Post 33 [(0, .int x0), (1, .int x1), (2, .int x2), (3, .int x3), (4, .int x4), (5, .int x5)] [] h := by
  refine td_iinc 5 (v := x5 + 1) (lv2 := [(0, .int x0), (1, .int x1), (2, .int x2), (3, .int x3), (4, .int x4), (5, .int (x5 + 1))]) dX1_openParts_33 rfl (congrArg (x5 + ·) (by decide)) (by decide) rfl ?_
  refine td_goto (tgt := 6) dX1_openParts_36 (by decide) ?_
  exact K
set_option maxRecDepth 20000 in
theorem rX1_begin_0 {G : td_G} {d : Nat} {Post : td_P} {k0 k1 : Nat} {h : td_H} (hk0 : td_kd k0 = 1) (hk1 : td_kd k1 = 5) (K : (¬ (h k0 5) = (h (k1 + 1) 0) → td_J G d mX1_begin Post 26 [(0, .ref k0), (1, .ref k1)] [] h) ∧ ((h k0 5) = (h (k1 + 1) 0) → (((h k0 6) = (h (k1 + 1) 1) → td_J G d mX1_begin Post 50 [(0, .ref k0), (1, .ref k1)] [] h) ∧ (¬ (h k0 6) = (h (k1 + 1) 1) → td_J G d mX1_begin Post 26 [(0, .ref k0), (1, .ref k1)] [] h)))) : td_J G d mX1_begin Post 0 [(0, .ref k0), (1, .ref k1)] [] h := by
  refine td_aload_n 0 dX1_begin_0 rfl ?_
  refine gf_X1_31 rfl hk0 dX1_begin_1 ?_
  refine td_aload_n 1 dX1_begin_4 rfl ?_
  refine gf_X1_35 rfl hk1 dX1_begin_5 ?_
  refine td_iconst (v := 0) dX1_begin_8 (by decide) ?_
  refine td_ialdc (j := 0) (kd_5_0 hk1) (by decide) (by unfold vp_in; decide) (by decide) dX1_begin_9 ?_
  obtain ⟨Kt, Kf⟩ := K
  refine td_icmp_ne (tgt := 26) dX1_begin_10 (by decide) (fun q => ?_) (fun q => ?_)
  · have K := Kt q
    exact K
  · have K := Kf q
    refine td_aload_n 0 dX1_begin_13 rfl ?_
    refine gf_X1_40 rfl hk0 dX1_begin_14 ?_
    refine td_aload_n 1 dX1_begin_17 rfl ?_
    refine gf_X1_35 rfl hk1 dX1_begin_18 ?_
    refine td_iconst (v := 1) dX1_begin_21 (by decide) ?_
    refine td_ialdc (j := 1) (kd_5_0 hk1) (by decide) (by unfold vp_in; decide) (by decide) dX1_begin_22 ?_
    obtain ⟨Kt, Kf⟩ := K
    refine td_icmp_eq (tgt := 50) dX1_begin_23 (by decide) (fun q => ?_) (fun q => ?_)
    · have K := Kt q
      exact K
    · have K := Kf q
      exact K
set_option maxRecDepth 20000 in
theorem rX1_begin_26 {G : td_G} {d : Nat} {Post : td_P} {k0 k1 : Nat} {h : td_H} (hk0 : td_kd k0 = 1) (hk1 : td_kd k1 = 5) (K : td_J G d mX1_begin Post 47 [(0, .ref k0), (1, .ref k1)] [.ref k0] (hu (hu h k0 5 (h (k1 + 1) 0)) k0 6 ((hu h k0 5 (h (k1 + 1) 0)) (k1 + 1) 1))) : td_J G d mX1_begin Post 26 [(0, .ref k0), (1, .ref k1)] [] h := by
  refine td_aload_n 0 dX1_begin_26 rfl ?_
  refine td_aload_n 1 dX1_begin_27 rfl ?_
  refine gf_X1_35 rfl hk1 dX1_begin_28 ?_
  refine td_iconst (v := 0) dX1_begin_31 (by decide) ?_
  refine td_ialdc (j := 0) (kd_5_0 hk1) (by decide) (by unfold vp_in; decide) (by decide) dX1_begin_32 ?_
  refine pf_X1_31 rfl hk0 dX1_begin_33 ?_
  refine td_aload_n 0 dX1_begin_36 rfl ?_
  refine td_aload_n 1 dX1_begin_37 rfl ?_
  refine gf_X1_35 rfl hk1 dX1_begin_38 ?_
  refine td_iconst (v := 1) dX1_begin_41 (by decide) ?_
  refine td_ialdc (j := 1) (kd_5_0 hk1) (by decide) (by unfold vp_in; decide) (by decide) dX1_begin_42 ?_
  refine pf_X1_40 rfl hk0 dX1_begin_43 ?_
  refine td_aload_n 0 dX1_begin_46 rfl ?_
  exact K
set_option maxRecDepth 20000 in
theorem rX1_begin_50 {G : td_G} {d : Nat} {Post : td_P} {k0 k1 : Nat} {h : td_H} (hk0 : td_kd k0 = 1) (hk1 : td_kd k1 = 5) (K : td_J G d mX1_begin Post 52 [(0, .ref k0), (1, .ref k1), (2, .int 0)] [] h) : td_J G d mX1_begin Post 50 [(0, .ref k0), (1, .ref k1)] [] h := by
  refine td_iconst (v := 0) dX1_begin_50 (by decide) ?_
  refine td_istore_n (lv2 := [(0, .ref k0), (1, .ref k1), (2, .int 0)]) dX1_begin_51 (by decide) rfl ?_
  exact K
set_option maxRecDepth 20000 in
theorem rX1_begin_52 {G : td_G} {d : Nat} {Post : td_P} {k0 k1 : Nat} {x2 : Int32} {h : td_H} (hk0 : td_kd k0 = 1) (hk1 : td_kd k1 = 5) (K : (4 ≤ x2 → (Post none (hu (hu (hu (hu (hu h k0 7 0) k0 8 0) k0 9 0) k0 10 ((hu (hu (hu h k0 7 0) k0 8 0) k0 9 0) (k1 + 1) 6)) k0 11 0))) ∧ (¬ 4 ≤ x2 → (vp_in x2 4 ∧ (vp_in x2 4 ∧ (td_J G d mX1_begin Post 52 [(0, .ref k0), (1, .ref k1), (2, .int (x2 + 1))] [] (hu (hu h (k0 + 3) (ix x2) 0) (k0 + 4) (ix x2) ((hu h (k0 + 3) (ix x2) 0) (k1 + 1) 2))))))) : td_J G d mX1_begin Post 52 [(0, .ref k0), (1, .ref k1), (2, .int x2)] [] h := by
  refine td_iload_n 2 dX1_begin_52 rfl ?_
  refine td_iconst (v := 4) dX1_begin_53 (by decide) ?_
  obtain ⟨Kt, Kf⟩ := K
  refine td_icmp_ge (tgt := 82) dX1_begin_54 (by decide) (fun q => ?_) (fun q => ?_)
  · have K := Kt q
    refine td_aload_n 0 dX1_begin_82 rfl ?_
    refine td_iconst (v := 0) dX1_begin_83 (by decide) ?_
    refine pf_X1_46 rfl hk0 dX1_begin_84 ?_
    refine td_aload_n 0 dX1_begin_87 rfl ?_
    refine td_iconst (v := 0) dX1_begin_88 (by decide) ?_
    refine pf_X1_49 rfl hk0 dX1_begin_89 ?_
    refine td_aload_n 0 dX1_begin_92 rfl ?_
    refine td_iconst (v := 0) dX1_begin_93 (by decide) ?_
    refine pf_X1_52 rfl hk0 dX1_begin_94 ?_
    refine td_aload_n 0 dX1_begin_97 rfl ?_
    refine td_aload_n 1 dX1_begin_98 rfl ?_
    refine gf_X1_35 rfl hk1 dX1_begin_99 ?_
    refine td_bipush (v := 6) dX1_begin_102 (by decide) ?_
    refine td_ialdc (j := 6) (kd_5_0 hk1) (by decide) (by unfold vp_in; decide) (by decide) dX1_begin_104 ?_
    refine pf_X1_55 rfl hk0 dX1_begin_105 ?_
    refine td_aload_n 0 dX1_begin_108 rfl ?_
    refine td_iconst (v := 0) dX1_begin_109 (by decide) ?_
    refine pf_X1_58 rfl hk0 dX1_begin_110 ?_
    exact td_return rfl dX1_begin_113 K
  · have K := Kf q
    refine td_aload_n 0 dX1_begin_57 rfl ?_
    refine gf_X1_18 rfl hk0 dX1_begin_58 ?_
    refine td_iload_n 2 dX1_begin_61 rfl ?_
    refine td_iconst (v := 0) dX1_begin_62 (by decide) ?_
    obtain ⟨e63, K⟩ := K
    refine td_iastc (j := (ix x2)) (kd_1_2 hk0) (by decide) e63 rfl dX1_begin_63 ?_
    refine td_aload_n 0 dX1_begin_64 rfl ?_
    refine gf_X1_21 rfl hk0 dX1_begin_65 ?_
    refine td_iload_n 2 dX1_begin_68 rfl ?_
    refine td_aload_n 1 dX1_begin_69 rfl ?_
    refine gf_X1_35 rfl hk1 dX1_begin_70 ?_
    refine td_iconst (v := 2) dX1_begin_73 (by decide) ?_
    refine td_ialdc (j := 2) (kd_5_0 hk1) (by decide) (by unfold vp_in; decide) (by decide) dX1_begin_74 ?_
    obtain ⟨e75, K⟩ := K
    refine td_iastc (j := (ix x2)) (kd_1_3 hk0) (by decide) e75 rfl dX1_begin_75 ?_
    refine td_iinc 2 (v := x2 + 1) (lv2 := [(0, .ref k0), (1, .ref k1), (2, .int (x2 + 1))]) dX1_begin_76 rfl (congrArg (x2 + ·) (by decide)) (by decide) rfl ?_
    refine td_goto (tgt := 52) dX1_begin_79 (by decide) ?_
    exact K
set_option maxRecDepth 20000 in
theorem rX1_layOut_0 {G : td_G} {d : Nat} {Post : td_P} {k0 : Nat} {h : td_H} (hk0 : td_kd k0 = 1) (K : td_J G d mX1_layOut Post 2 [(0, .ref k0), (1, .int 0)] [] h) : td_J G d mX1_layOut Post 0 [(0, .ref k0)] [] h := by
  refine td_iconst (v := 0) dX1_layOut_0 (by decide) ?_
  refine td_istore_n (lv2 := [(0, .ref k0), (1, .int 0)]) dX1_layOut_1 (by decide) rfl ?_
  exact K
set_option maxRecDepth 20000 in
theorem rX1_layOut_2 {G : td_G} {d : Nat} {Post : td_P} {k0 : Nat} {x1 : Int32} {h : td_H} (hk0 : td_kd k0 = 1) (K : (24 ≤ x1 → (Post none h)) ∧ (¬ 24 ≤ x1 → td_J G d mX1_layOut Post 29 [(0, .ref k0), (1, .int x1)] [.int (jrem x1 12), .int (x1 / 12), .int (h k0 6), .int (h k0 5), .int x1, .ref (k0 + 2)] h)) : td_J G d mX1_layOut Post 2 [(0, .ref k0), (1, .int x1)] [] h := by
  refine td_iload_n 1 dX1_layOut_2 rfl ?_
  refine td_bipush (v := 24) dX1_layOut_3 (by decide) ?_
  obtain ⟨Kt, Kf⟩ := K
  refine td_icmp_ge (tgt := 78) dX1_layOut_5 (by decide) (fun q => ?_) (fun q => ?_)
  · have K := Kt q
    exact td_return rfl dX1_layOut_78 K
  · have K := Kf q
    refine td_aload_n 0 dX1_layOut_8 rfl ?_
    refine gf_X1_15 rfl hk0 dX1_layOut_9 ?_
    refine td_iload_n 1 dX1_layOut_12 rfl ?_
    refine td_aload_n 0 dX1_layOut_13 rfl ?_
    refine gf_X1_31 rfl hk0 dX1_layOut_14 ?_
    refine td_aload_n 0 dX1_layOut_17 rfl ?_
    refine gf_X1_40 rfl hk0 dX1_layOut_18 ?_
    refine td_iload_n 1 dX1_layOut_21 rfl ?_
    refine td_bipush (v := 12) dX1_layOut_22 (by decide) ?_
    refine td_idiv dX1_layOut_24 (by decide) ?_
    refine td_iload_n 1 dX1_layOut_25 rfl ?_
    refine td_bipush (v := 12) dX1_layOut_26 (by decide) ?_
    refine td_irem dX1_layOut_28 (by decide) ?_
    exact K
set_option maxRecDepth 20000 in
theorem rX1_layOut_32 {G : td_G} {d : Nat} {Post : td_P} {k0 a0 na0 : Nat} {x1 s1 s2 : Int32} {h : td_H} (hk0 : td_kd k0 = 1) (ha0 : td_kd a0 = 100 + na0) (ga0 : na0 ≠ 899) (K : vp_in s1 na0 ∧ (td_J G d mX1_layOut Post 35 [(0, .ref k0), (1, .int x1), (2, .int 0)] [] (hu h a0 (ix s1) s2))) : td_J G d mX1_layOut Post 32 [(0, .ref k0), (1, .int x1)] [.int s2, .int s1, .ref a0] h := by
  obtain ⟨e32, K⟩ := K
  refine td_iastc (j := (ix s1)) ha0 ga0 e32 rfl dX1_layOut_32 ?_
  refine td_iconst (v := 0) dX1_layOut_33 (by decide) ?_
  refine td_istore_n (lv2 := [(0, .ref k0), (1, .int x1), (2, .int 0)]) dX1_layOut_34 (by decide) rfl ?_
  exact K
set_option maxRecDepth 20000 in
theorem rX1_layOut_35 {G : td_G} {d : Nat} {Post : td_P} {k0 : Nat} {x1 x2 : Int32} {h : td_H} (hk0 : td_kd k0 = 1) (K : (4 ≤ x2 → td_J G d mX1_layOut Post 2 [(0, .ref k0), (1, .int (x1 + 1))] [] h) ∧ (¬ 4 ≤ x2 → td_J G d mX1_layOut Post 62 [(0, .ref k0), (1, .int x1), (2, .int x2)] [.int (jrem x1 12), .int (x1 / 12), .int x2, .int (h k0 5), .int ((x1 * 4) + x2), .ref (k0 + 1)] h)) : td_J G d mX1_layOut Post 35 [(0, .ref k0), (1, .int x1), (2, .int x2)] [] h := by
  refine td_iload_n 2 dX1_layOut_35 rfl ?_
  refine td_iconst (v := 4) dX1_layOut_36 (by decide) ?_
  obtain ⟨Kt, Kf⟩ := K
  refine td_icmp_ge (tgt := 72) dX1_layOut_37 (by decide) (fun q => ?_) (fun q => ?_)
  · have K := Kt q
    refine td_iinc 1 (v := x1 + 1) (lv2 := [(0, .ref k0), (1, .int (x1 + 1)), (2, .int x2)]) dX1_layOut_72 rfl (congrArg (x1 + ·) (by decide)) (by decide) rfl ?_
    refine td_goto (tgt := 2) dX1_layOut_75 (by decide) ?_
    refine td_drop [0, 1] rfl ?_
    exact K
  · have K := Kf q
    refine td_aload_n 0 dX1_layOut_40 rfl ?_
    refine gf_X1_9 rfl hk0 dX1_layOut_41 ?_
    refine td_iload_n 1 dX1_layOut_44 rfl ?_
    refine td_iconst (v := 4) dX1_layOut_45 (by decide) ?_
    refine td_imul dX1_layOut_46 ?_
    refine td_iload_n 2 dX1_layOut_47 rfl ?_
    refine td_iadd dX1_layOut_48 ?_
    refine td_aload_n 0 dX1_layOut_49 rfl ?_
    refine gf_X1_31 rfl hk0 dX1_layOut_50 ?_
    refine td_iload_n 2 dX1_layOut_53 rfl ?_
    refine td_iload_n 1 dX1_layOut_54 rfl ?_
    refine td_bipush (v := 12) dX1_layOut_55 (by decide) ?_
    refine td_idiv dX1_layOut_57 (by decide) ?_
    refine td_iload_n 1 dX1_layOut_58 rfl ?_
    refine td_bipush (v := 12) dX1_layOut_59 (by decide) ?_
    refine td_irem dX1_layOut_61 (by decide) ?_
    exact K
set_option maxRecDepth 20000 in
theorem rX1_layOut_65 {G : td_G} {d : Nat} {Post : td_P} {k0 a0 na0 : Nat} {x1 x2 s1 s2 : Int32} {h : td_H} (hk0 : td_kd k0 = 1) (ha0 : td_kd a0 = 100 + na0) (ga0 : na0 ≠ 899) (K : vp_in s1 na0 ∧ (td_J G d mX1_layOut Post 35 [(0, .ref k0), (1, .int x1), (2, .int (x2 + 1))] [] (hu h a0 (ix s1) s2))) : td_J G d mX1_layOut Post 65 [(0, .ref k0), (1, .int x1), (2, .int x2)] [.int s2, .int s1, .ref a0] h := by
  obtain ⟨e65, K⟩ := K
  refine td_iastc (j := (ix s1)) ha0 ga0 e65 rfl dX1_layOut_65 ?_
  refine td_iinc 2 (v := x2 + 1) (lv2 := [(0, .ref k0), (1, .int x1), (2, .int (x2 + 1))]) dX1_layOut_66 rfl (congrArg (x2 + ·) (by decide)) (by decide) rfl ?_
  refine td_goto (tgt := 35) dX1_layOut_69 (by decide) ?_
  exact K
set_option maxRecDepth 20000 in
theorem rX1_openSet_0 {G : td_G} {d : Nat} {Post : td_P} {k0 : Nat} {x1 : Int32} {h : td_H} (hk0 : td_kd k0 = 1) (K : vp_in ((x1 * 12) + (h k0 7)) 24 ∧ (Post (some (.int (h (k0 + 2) (ix ((x1 * 12) + (h k0 7)))))) h)) : td_J G d mX1_openSet Post 0 [(0, .ref k0), (1, .int x1)] [] h := by
  refine td_aload_n 0 dX1_openSet_0 rfl ?_
  refine gf_X1_15 rfl hk0 dX1_openSet_1 ?_
  refine td_iload_n 1 dX1_openSet_4 rfl ?_
  refine td_bipush (v := 12) dX1_openSet_5 (by decide) ?_
  refine td_imul dX1_openSet_7 ?_
  refine td_aload_n 0 dX1_openSet_8 rfl ?_
  refine gf_X1_46 rfl hk0 dX1_openSet_9 ?_
  refine td_iadd dX1_openSet_12 ?_
  obtain ⟨e13, K⟩ := K
  refine td_ialdc (j := (ix ((x1 * 12) + (h k0 7)))) (kd_1_1 hk0) (by decide) e13 rfl dX1_openSet_13 ?_
  exact td_ireturn rfl dX1_openSet_14 K
set_option maxRecDepth 20000 in
theorem rX1_shareAt_0 {G : td_G} {d : Nat} {Post : td_P} {k0 : Nat} {x1 x2 : Int32} {h : td_H} (hk0 : td_kd k0 = 1) (K : vp_in ((((x2 * 12) + (h k0 7)) * 4) + x1) 96 ∧ (Post (some (.int (h (k0 + 1) (ix ((((x2 * 12) + (h k0 7)) * 4) + x1))))) h)) : td_J G d mX1_shareAt Post 0 [(0, .ref k0), (1, .int x1), (2, .int x2)] [] h := by
  refine td_aload_n 0 dX1_shareAt_0 rfl ?_
  refine gf_X1_9 rfl hk0 dX1_shareAt_1 ?_
  refine td_iload_n 2 dX1_shareAt_4 rfl ?_
  refine td_bipush (v := 12) dX1_shareAt_5 (by decide) ?_
  refine td_imul dX1_shareAt_7 ?_
  refine td_aload_n 0 dX1_shareAt_8 rfl ?_
  refine gf_X1_46 rfl hk0 dX1_shareAt_9 ?_
  refine td_iadd dX1_shareAt_12 ?_
  refine td_iconst (v := 4) dX1_shareAt_13 (by decide) ?_
  refine td_imul dX1_shareAt_14 ?_
  refine td_iload_n 1 dX1_shareAt_15 rfl ?_
  refine td_iadd dX1_shareAt_16 ?_
  obtain ⟨e17, K⟩ := K
  refine td_ialdc (j := (ix ((((x2 * 12) + (h k0 7)) * 4) + x1))) (kd_1_0 hk0) (by decide) e17 rfl dX1_shareAt_17 ?_
  exact td_ireturn rfl dX1_shareAt_18 K
set_option maxRecDepth 20000 in
theorem rX1_stepOn_0 {G : td_G} {d : Nat} {Post : td_P} {k0 : Nat} {h : td_H} (hk0 : td_kd k0 = 1) (K : (¬ (h k0 7) = 11 → td_J G d mX1_stepOn Post 20 [(0, .ref k0)] [.int ((h k0 7) + 1), .ref k0] h) ∧ ((h k0 7) = 11 → td_J G d mX1_stepOn Post 20 [(0, .ref k0)] [.int 0, .ref k0] h)) : td_J G d mX1_stepOn Post 0 [(0, .ref k0)] [] h := by
  refine td_aload_n 0 dX1_stepOn_0 rfl ?_
  refine td_aload_n 0 dX1_stepOn_1 rfl ?_
  refine gf_X1_46 rfl hk0 dX1_stepOn_2 ?_
  refine td_bipush (v := 11) dX1_stepOn_5 (by decide) ?_
  obtain ⟨Kt, Kf⟩ := K
  refine td_icmp_ne (tgt := 14) dX1_stepOn_7 (by decide) (fun q => ?_) (fun q => ?_)
  · have K := Kt q
    refine td_aload_n 0 dX1_stepOn_14 rfl ?_
    refine gf_X1_46 rfl hk0 dX1_stepOn_15 ?_
    refine td_iconst (v := 1) dX1_stepOn_18 (by decide) ?_
    refine td_iadd dX1_stepOn_19 ?_
    exact K
  · have K := Kf q
    refine td_iconst (v := 0) dX1_stepOn_10 (by decide) ?_
    refine td_goto (tgt := 20) dX1_stepOn_11 (by decide) ?_
    exact K
set_option maxRecDepth 20000 in
theorem rX1_stepOn_20 {G : td_G} {d : Nat} {Post : td_P} {k0 a0 : Nat} {s1 : Int32} {h : td_H} (hk0 : td_kd k0 = 1) (ha0 : td_kd a0 = 1) (K : Post none (hu (hu h a0 7 s1) k0 9 (((hu h a0 7 s1) k0 9) + 1))) : td_J G d mX1_stepOn Post 20 [(0, .ref k0)] [.int s1, .ref a0] h := by
  refine pf_X1_46 rfl ha0 dX1_stepOn_20 ?_
  refine td_aload_n 0 dX1_stepOn_23 rfl ?_
  refine td_dup dX1_stepOn_24 rfl ?_
  refine gf_X1_52 rfl hk0 dX1_stepOn_25 ?_
  refine td_iconst (v := 1) dX1_stepOn_28 (by decide) ?_
  refine td_iadd dX1_stepOn_29 ?_
  refine pf_X1_52 rfl hk0 dX1_stepOn_30 ?_
  exact td_return rfl dX1_stepOn_33 K
set_option maxRecDepth 20000 in
theorem rX1_lose_0 {G : td_G} {d : Nat} {Post : td_P} {k0 : Nat} {x1 : Int32} {h : td_H} (hk0 : td_kd k0 = 1) (K : td_J G d mX1_lose Post 2 [(0, .ref k0), (1, .int x1), (2, .int 0)] [] h) : td_J G d mX1_lose Post 0 [(0, .ref k0), (1, .int x1)] [] h := by
  refine td_iconst (v := 0) dX1_lose_0 (by decide) ?_
  refine td_istore_n (lv2 := [(0, .ref k0), (1, .int x1), (2, .int 0)]) dX1_lose_1 (by decide) rfl ?_
  exact K
set_option maxRecDepth 20000 in
theorem rX1_lose_2 {G : td_G} {d : Nat} {Post : td_P} {k0 : Nat} {x1 x2 : Int32} {h : td_H} (hk0 : td_kd k0 = 1) (K : (4 ≤ x2 → td_J G d mX1_lose Post 56 [(0, .ref k0), (1, .int x1), (2, .int x2)] [] h) ∧ (¬ 4 ≤ x2 → (((jshr x1 x2) = 0 → td_J G d mX1_lose Post 56 [(0, .ref k0), (1, .int x1), (2, .int x2)] [] h) ∧ (¬ (jshr x1 x2) = 0 → ((((jshr x1 x2) &&& 1) = 0 → td_J G d mX1_lose Post 50 [(0, .ref k0), (1, .int x1), (2, .int x2)] [] h) ∧ (¬ ((jshr x1 x2) &&& 1) = 0 → (vp_in x2 4 ∧ (((h (k0 + 4) (ix x2)) ≤ 0 → td_J G d mX1_lose Post 50 [(0, .ref k0), (1, .int x1), (2, .int x2)] [] h) ∧ (¬ (h (k0 + 4) (ix x2)) ≤ 0 → (vp_in x2 4 ∧ (td_J G d mX1_lose Post 50 [(0, .ref k0), (1, .int x1), (2, .int x2)] [] (hu h k0 11 ((h k0 11) + ((h k0 10) * (h (k0 + 4) (ix x2)))))))))))))))) : td_J G d mX1_lose Post 2 [(0, .ref k0), (1, .int x1), (2, .int x2)] [] h := by
  refine td_iload_n 2 dX1_lose_2 rfl ?_
  refine td_iconst (v := 4) dX1_lose_3 (by decide) ?_
  obtain ⟨Kt, Kf⟩ := K
  refine td_icmp_ge (tgt := 56) dX1_lose_4 (by decide) (fun q => ?_) (fun q => ?_)
  · have K := Kt q
    exact K
  · have K := Kf q
    refine td_iload_n 1 dX1_lose_7 rfl ?_
    refine td_iload_n 2 dX1_lose_8 rfl ?_
    refine td_ishr dX1_lose_9 ?_
    obtain ⟨Kt, Kf⟩ := K
    refine td_if_eq (tgt := 56) dX1_lose_10 (by decide) (fun q => ?_) (fun q => ?_)
    · have K := Kt q
      exact K
    · have K := Kf q
      refine td_iload_n 1 dX1_lose_13 rfl ?_
      refine td_iload_n 2 dX1_lose_14 rfl ?_
      refine td_ishr dX1_lose_15 ?_
      refine td_iconst (v := 1) dX1_lose_16 (by decide) ?_
      refine td_iand dX1_lose_17 ?_
      obtain ⟨Kt, Kf⟩ := K
      refine td_if_eq (tgt := 50) dX1_lose_18 (by decide) (fun q => ?_) (fun q => ?_)
      · have K := Kt q
        exact K
      · have K := Kf q
        refine td_aload_n 0 dX1_lose_21 rfl ?_
        refine gf_X1_21 rfl hk0 dX1_lose_22 ?_
        refine td_iload_n 2 dX1_lose_25 rfl ?_
        obtain ⟨e26, K⟩ := K
        refine td_ialdc (j := (ix x2)) (kd_1_3 hk0) (by decide) e26 rfl dX1_lose_26 ?_
        obtain ⟨Kt, Kf⟩ := K
        refine td_if_le (tgt := 50) dX1_lose_27 (by decide) (fun q => ?_) (fun q => ?_)
        · have K := Kt q
          exact K
        · have K := Kf q
          refine td_aload_n 0 dX1_lose_30 rfl ?_
          refine td_dup dX1_lose_31 rfl ?_
          refine gf_X1_58 rfl hk0 dX1_lose_32 ?_
          refine td_aload_n 0 dX1_lose_35 rfl ?_
          refine gf_X1_55 rfl hk0 dX1_lose_36 ?_
          refine td_aload_n 0 dX1_lose_39 rfl ?_
          refine gf_X1_21 rfl hk0 dX1_lose_40 ?_
          refine td_iload_n 2 dX1_lose_43 rfl ?_
          obtain ⟨e44, K⟩ := K
          refine td_ialdc (j := (ix x2)) (kd_1_3 hk0) (by decide) e44 rfl dX1_lose_44 ?_
          refine td_imul dX1_lose_45 ?_
          refine td_iadd dX1_lose_46 ?_
          refine pf_X1_58 rfl hk0 dX1_lose_47 ?_
          exact K
set_option maxRecDepth 20000 in
theorem rX1_lose_50 {G : td_G} {d : Nat} {Post : td_P} {k0 : Nat} {x1 x2 : Int32} {h : td_H} (hk0 : td_kd k0 = 1) (K : td_J G d mX1_lose Post 2 [(0, .ref k0), (1, .int x1), (2, .int (x2 + 1))] [] h) : td_J G d mX1_lose Post 50 [(0, .ref k0), (1, .int x1), (2, .int x2)] [] h := by
  refine td_iinc 2 (v := x2 + 1) (lv2 := [(0, .ref k0), (1, .int x1), (2, .int (x2 + 1))]) dX1_lose_50 rfl (congrArg (x2 + ·) (by decide)) (by decide) rfl ?_
  refine td_goto (tgt := 2) dX1_lose_53 (by decide) ?_
  exact K
set_option maxRecDepth 20000 in
theorem rX1_lose_56 {G : td_G} {d : Nat} {Post : td_P} {k0 : Nat} {x1 x2 : Int32} {h : td_H} (hk0 : td_kd k0 = 1) (K : Post none h) : td_J G d mX1_lose Post 56 [(0, .ref k0), (1, .int x1), (2, .int x2)] [] h := by
  exact td_return rfl dX1_lose_56 K
set_option maxRecDepth 20000 in
theorem rX1_holdersOf_0 {G : td_G} {d : Nat} {Post : td_P} {k0 : Nat} {x1 : Int32} {h : td_H} (hk0 : td_kd k0 = 1) (K : td_J G d mX1_holdersOf Post 4 [(0, .ref k0), (1, .int x1), (2, .int 0), (3, .int 0)] [] h) : td_J G d mX1_holdersOf Post 0 [(0, .ref k0), (1, .int x1)] [] h := by
  refine td_iconst (v := 0) dX1_holdersOf_0 (by decide) ?_
  refine td_istore_n (lv2 := [(0, .ref k0), (1, .int x1), (2, .int 0)]) dX1_holdersOf_1 (by decide) rfl ?_
  refine td_iconst (v := 0) dX1_holdersOf_2 (by decide) ?_
  refine td_istore_n (lv2 := [(0, .ref k0), (1, .int x1), (2, .int 0), (3, .int 0)]) dX1_holdersOf_3 (by decide) rfl ?_
  exact K
set_option maxRecDepth 20000 in
theorem rX1_holdersOf_4 {G : td_G} {d : Nat} {Post : td_P} {k0 : Nat} {x1 x2 x3 : Int32} {h : td_H} (hk0 : td_kd k0 = 1) (K : (4 ≤ x3 → td_J G d mX1_holdersOf Post 38 [(0, .ref k0), (1, .int x1), (2, .int x2), (3, .int x3)] [] h) ∧ (¬ 4 ≤ x3 → (((jshr x1 x3) = 0 → td_J G d mX1_holdersOf Post 38 [(0, .ref k0), (1, .int x1), (2, .int x2), (3, .int x3)] [] h) ∧ (¬ (jshr x1 x3) = 0 → ((((jshr x1 x3) &&& 1) = 0 → td_J G d mX1_holdersOf Post 32 [(0, .ref k0), (1, .int x1), (2, .int x2), (3, .int x3)] [] h) ∧ (¬ ((jshr x1 x3) &&& 1) = 0 → (vp_in x3 4 ∧ (td_J G d mX1_holdersOf Post 32 [(0, .ref k0), (1, .int x1), (2, .int (x2 ||| (h (k0 + 3) (ix x3)))), (3, .int x3)] [] h)))))))) : td_J G d mX1_holdersOf Post 4 [(0, .ref k0), (1, .int x1), (2, .int x2), (3, .int x3)] [] h := by
  refine td_iload_n 3 dX1_holdersOf_4 rfl ?_
  refine td_iconst (v := 4) dX1_holdersOf_5 (by decide) ?_
  obtain ⟨Kt, Kf⟩ := K
  refine td_icmp_ge (tgt := 38) dX1_holdersOf_6 (by decide) (fun q => ?_) (fun q => ?_)
  · have K := Kt q
    exact K
  · have K := Kf q
    refine td_iload_n 1 dX1_holdersOf_9 rfl ?_
    refine td_iload_n 3 dX1_holdersOf_10 rfl ?_
    refine td_ishr dX1_holdersOf_11 ?_
    obtain ⟨Kt, Kf⟩ := K
    refine td_if_eq (tgt := 38) dX1_holdersOf_12 (by decide) (fun q => ?_) (fun q => ?_)
    · have K := Kt q
      exact K
    · have K := Kf q
      refine td_iload_n 1 dX1_holdersOf_15 rfl ?_
      refine td_iload_n 3 dX1_holdersOf_16 rfl ?_
      refine td_ishr dX1_holdersOf_17 ?_
      refine td_iconst (v := 1) dX1_holdersOf_18 (by decide) ?_
      refine td_iand dX1_holdersOf_19 ?_
      obtain ⟨Kt, Kf⟩ := K
      refine td_if_eq (tgt := 32) dX1_holdersOf_20 (by decide) (fun q => ?_) (fun q => ?_)
      · have K := Kt q
        exact K
      · have K := Kf q
        refine td_iload_n 2 dX1_holdersOf_23 rfl ?_
        refine td_aload_n 0 dX1_holdersOf_24 rfl ?_
        refine gf_X1_18 rfl hk0 dX1_holdersOf_25 ?_
        refine td_iload_n 3 dX1_holdersOf_28 rfl ?_
        obtain ⟨e29, K⟩ := K
        refine td_ialdc (j := (ix x3)) (kd_1_2 hk0) (by decide) e29 rfl dX1_holdersOf_29 ?_
        refine td_ior dX1_holdersOf_30 ?_
        refine td_istore_n (lv2 := [(0, .ref k0), (1, .int x1), (2, .int (x2 ||| (h (k0 + 3) (ix x3)))), (3, .int x3)]) dX1_holdersOf_31 (by decide) rfl ?_
        exact K
set_option maxRecDepth 20000 in
theorem rX1_holdersOf_32 {G : td_G} {d : Nat} {Post : td_P} {k0 : Nat} {x1 x2 x3 : Int32} {h : td_H} (hk0 : td_kd k0 = 1) (K : td_J G d mX1_holdersOf Post 4 [(0, .ref k0), (1, .int x1), (2, .int x2), (3, .int (x3 + 1))] [] h) : td_J G d mX1_holdersOf Post 32 [(0, .ref k0), (1, .int x1), (2, .int x2), (3, .int x3)] [] h := by
  refine td_iinc 3 (v := x3 + 1) (lv2 := [(0, .ref k0), (1, .int x1), (2, .int x2), (3, .int (x3 + 1))]) dX1_holdersOf_32 rfl (congrArg (x3 + ·) (by decide)) (by decide) rfl ?_
  refine td_goto (tgt := 4) dX1_holdersOf_35 (by decide) ?_
  exact K
set_option maxRecDepth 20000 in
theorem rX1_holdersOf_38 {G : td_G} {d : Nat} {Post : td_P} {k0 : Nat} {x1 x2 x3 : Int32} {h : td_H} (hk0 : td_kd k0 = 1) (K : Post (some (.int x2)) h) : td_J G d mX1_holdersOf Post 38 [(0, .ref k0), (1, .int x1), (2, .int x2), (3, .int x3)] [] h := by
  refine td_iload_n 2 dX1_holdersOf_38 rfl ?_
  exact td_ireturn rfl dX1_holdersOf_39 K
set_option maxRecDepth 20000 in
theorem rX1_take_0 {G : td_G} {d : Nat} {Post : td_P} {k0 : Nat} {x1 x2 x3 : Int32} {h : td_H} (hk0 : td_kd k0 = 1) (K : vp_in x2 4 ∧ (vp_in x2 4 ∧ (vp_in x2 4 ∧ (vp_in x2 4 ∧ (vp_in x1 12 ∧ (Post none (hu (hu (hu (hu h (k0 + 3) (ix x2) ((h (k0 + 3) (ix x2)) ||| (jshl 1 x1))) (k0 + 4) (ix x2) (((hu h (k0 + 3) (ix x2) ((h (k0 + 3) (ix x2)) ||| (jshl 1 x1))) (k0 + 4) (ix x2)) - x3)) (k0 + 5) (ix x1) x2) k0 8 (((hu (hu (hu h (k0 + 3) (ix x2) ((h (k0 + 3) (ix x2)) ||| (jshl 1 x1))) (k0 + 4) (ix x2) (((hu h (k0 + 3) (ix x2) ((h (k0 + 3) (ix x2)) ||| (jshl 1 x1))) (k0 + 4) (ix x2)) - x3)) (k0 + 5) (ix x1) x2) k0 8) ||| (jshl 1 x1))))))))) : td_J G d mX1_take Post 0 [(0, .ref k0), (1, .int x1), (2, .int x2), (3, .int x3)] [] h := by
  refine td_aload_n 0 dX1_take_0 rfl ?_
  refine gf_X1_18 rfl hk0 dX1_take_1 ?_
  refine td_iload_n 2 dX1_take_4 rfl ?_
  refine td_dup2 dX1_take_5 rfl rfl ?_
  obtain ⟨e6, K⟩ := K
  refine td_ialdc (j := (ix x2)) (kd_1_2 hk0) (by decide) e6 rfl dX1_take_6 ?_
  refine td_iconst (v := 1) dX1_take_7 (by decide) ?_
  refine td_iload_n 1 dX1_take_8 rfl ?_
  refine td_ishl dX1_take_9 ?_
  refine td_ior dX1_take_10 ?_
  obtain ⟨e11, K⟩ := K
  refine td_iastc (j := (ix x2)) (kd_1_2 hk0) (by decide) e11 rfl dX1_take_11 ?_
  refine td_aload_n 0 dX1_take_12 rfl ?_
  refine gf_X1_21 rfl hk0 dX1_take_13 ?_
  refine td_iload_n 2 dX1_take_16 rfl ?_
  refine td_dup2 dX1_take_17 rfl rfl ?_
  obtain ⟨e18, K⟩ := K
  refine td_ialdc (j := (ix x2)) (kd_1_3 hk0) (by decide) e18 rfl dX1_take_18 ?_
  refine td_iload_n 3 dX1_take_19 rfl ?_
  refine td_isub dX1_take_20 ?_
  obtain ⟨e21, K⟩ := K
  refine td_iastc (j := (ix x2)) (kd_1_3 hk0) (by decide) e21 rfl dX1_take_21 ?_
  refine td_aload_n 0 dX1_take_22 rfl ?_
  refine gf_X1_24 rfl hk0 dX1_take_23 ?_
  refine td_iload_n 1 dX1_take_26 rfl ?_
  refine td_iload_n 2 dX1_take_27 rfl ?_
  obtain ⟨e28, K⟩ := K
  refine td_iastc (j := (ix x1)) (kd_1_4 hk0) (by decide) e28 rfl dX1_take_28 ?_
  refine td_aload_n 0 dX1_take_29 rfl ?_
  refine td_dup dX1_take_30 rfl ?_
  refine gf_X1_49 rfl hk0 dX1_take_31 ?_
  refine td_iconst (v := 1) dX1_take_34 (by decide) ?_
  refine td_iload_n 1 dX1_take_35 rfl ?_
  refine td_ishl dX1_take_36 ?_
  refine td_ior dX1_take_37 ?_
  refine pf_X1_49 rfl hk0 dX1_take_38 ?_
  exact td_return rfl dX1_take_41 K
set_option maxRecDepth 20000 in
theorem rX1_release_0 {G : td_G} {d : Nat} {Post : td_P} {k0 : Nat} {x1 x2 : Int32} {h : td_H} (hk0 : td_kd k0 = 1) (K : vp_in x1 12 ∧ (vp_in (h (k0 + 5) (ix x1)) 4 ∧ (vp_in (h (k0 + 5) (ix x1)) 4 ∧ (vp_in (h (k0 + 5) (ix x1)) 4 ∧ (vp_in (h (k0 + 5) (ix x1)) 4 ∧ (Post none (hu (hu (hu h (k0 + 3) (ix (h (k0 + 5) (ix x1))) ((h (k0 + 3) (ix (h (k0 + 5) (ix x1)))) &&& ((jshl 1 x1) ^^^ (-1)))) (k0 + 4) (ix (h (k0 + 5) (ix x1))) (((hu h (k0 + 3) (ix (h (k0 + 5) (ix x1))) ((h (k0 + 3) (ix (h (k0 + 5) (ix x1)))) &&& ((jshl 1 x1) ^^^ (-1)))) (k0 + 4) (ix (h (k0 + 5) (ix x1)))) + x2)) k0 8 (((hu (hu h (k0 + 3) (ix (h (k0 + 5) (ix x1))) ((h (k0 + 3) (ix (h (k0 + 5) (ix x1)))) &&& ((jshl 1 x1) ^^^ (-1)))) (k0 + 4) (ix (h (k0 + 5) (ix x1))) (((hu h (k0 + 3) (ix (h (k0 + 5) (ix x1))) ((h (k0 + 3) (ix (h (k0 + 5) (ix x1)))) &&& ((jshl 1 x1) ^^^ (-1)))) (k0 + 4) (ix (h (k0 + 5) (ix x1)))) + x2)) k0 8) &&& ((jshl 1 x1) ^^^ (-1)))))))))) : td_J G d mX1_release Post 0 [(0, .ref k0), (1, .int x1), (2, .int x2)] [] h := by
  refine td_aload_n 0 dX1_release_0 rfl ?_
  refine gf_X1_24 rfl hk0 dX1_release_1 ?_
  refine td_iload_n 1 dX1_release_4 rfl ?_
  obtain ⟨e5, K⟩ := K
  refine td_ialdc (j := (ix x1)) (kd_1_4 hk0) (by decide) e5 rfl dX1_release_5 ?_
  refine td_istore_n (lv2 := [(0, .ref k0), (1, .int x1), (2, .int x2), (3, .int (h (k0 + 5) (ix x1)))]) dX1_release_6 (by decide) rfl ?_
  refine td_aload_n 0 dX1_release_7 rfl ?_
  refine gf_X1_18 rfl hk0 dX1_release_8 ?_
  refine td_iload_n 3 dX1_release_11 rfl ?_
  refine td_dup2 dX1_release_12 rfl rfl ?_
  obtain ⟨e13, K⟩ := K
  refine td_ialdc (j := (ix (h (k0 + 5) (ix x1)))) (kd_1_2 hk0) (by decide) e13 rfl dX1_release_13 ?_
  refine td_iconst (v := 1) dX1_release_14 (by decide) ?_
  refine td_iload_n 1 dX1_release_15 rfl ?_
  refine td_ishl dX1_release_16 ?_
  refine td_iconst (v := (-1)) dX1_release_17 (by decide) ?_
  refine td_ixor dX1_release_18 ?_
  refine td_iand dX1_release_19 ?_
  obtain ⟨e20, K⟩ := K
  refine td_iastc (j := (ix (h (k0 + 5) (ix x1)))) (kd_1_2 hk0) (by decide) e20 rfl dX1_release_20 ?_
  refine td_aload_n 0 dX1_release_21 rfl ?_
  refine gf_X1_21 rfl hk0 dX1_release_22 ?_
  refine td_iload_n 3 dX1_release_25 rfl ?_
  refine td_dup2 dX1_release_26 rfl rfl ?_
  obtain ⟨e27, K⟩ := K
  refine td_ialdc (j := (ix (h (k0 + 5) (ix x1)))) (kd_1_3 hk0) (by decide) e27 rfl dX1_release_27 ?_
  refine td_iload_n 2 dX1_release_28 rfl ?_
  refine td_iadd dX1_release_29 ?_
  obtain ⟨e30, K⟩ := K
  refine td_iastc (j := (ix (h (k0 + 5) (ix x1)))) (kd_1_3 hk0) (by decide) e30 rfl dX1_release_30 ?_
  refine td_aload_n 0 dX1_release_31 rfl ?_
  refine td_dup dX1_release_32 rfl ?_
  refine gf_X1_49 rfl hk0 dX1_release_33 ?_
  refine td_iconst (v := 1) dX1_release_36 (by decide) ?_
  refine td_iload_n 1 dX1_release_37 rfl ?_
  refine td_ishl dX1_release_38 ?_
  refine td_iconst (v := (-1)) dX1_release_39 (by decide) ?_
  refine td_ixor dX1_release_40 ?_
  refine td_iand dX1_release_41 ?_
  refine pf_X1_49 rfl hk0 dX1_release_42 ?_
  exact td_return rfl dX1_release_45 K
set_option maxRecDepth 20000 in
theorem rX2_begin_0 {G : td_G} {d : Nat} {Post : td_P} {k0 : Nat} {h : td_H} (hk0 : td_kd k0 = 2) (K : td_J G d mX2_begin Post 2 [(0, .ref k0), (1, .int 0)] [] h) : td_J G d mX2_begin Post 0 [(0, .ref k0)] [] h := by
  refine td_iconst (v := 0) dX2_begin_0 (by decide) ?_
  refine td_istore_n (lv2 := [(0, .ref k0), (1, .int 0)]) dX2_begin_1 (by decide) rfl ?_
  exact K
set_option maxRecDepth 20000 in
theorem rX2_begin_2 {G : td_G} {d : Nat} {Post : td_P} {k0 : Nat} {x1 : Int32} {h : td_H} (hk0 : td_kd k0 = 2) (K : (12 ≤ x1 → (Post none (hu (hu h k0 4 0) k0 5 0))) ∧ (¬ 12 ≤ x1 → (vp_in x1 12 ∧ (vp_in x1 12 ∧ (vp_in x1 12 ∧ (vp_in x1 12 ∧ (td_J G d mX2_begin Post 2 [(0, .ref k0), (1, .int (x1 + 1))] [] (hu (hu (hu (hu h (k0 + 1) (ix x1) 120) (k0 + 2) (ix x1) 120) (k0 + 3) (ix x1) 120) (k0 + 4) (ix x1) 0)))))))) : td_J G d mX2_begin Post 2 [(0, .ref k0), (1, .int x1)] [] h := by
  refine td_iload_n 1 dX2_begin_2 rfl ?_
  refine td_bipush (v := 12) dX2_begin_3 (by decide) ?_
  obtain ⟨Kt, Kf⟩ := K
  refine td_icmp_ge (tgt := 45) dX2_begin_5 (by decide) (fun q => ?_) (fun q => ?_)
  · have K := Kt q
    refine td_aload_n 0 dX2_begin_45 rfl ?_
    refine td_iconst (v := 0) dX2_begin_46 (by decide) ?_
    refine pf_X2_24 rfl hk0 dX2_begin_47 ?_
    refine td_aload_n 0 dX2_begin_50 rfl ?_
    refine td_iconst (v := 0) dX2_begin_51 (by decide) ?_
    refine pf_X2_28 rfl hk0 dX2_begin_52 ?_
    exact td_return rfl dX2_begin_55 K
  · have K := Kf q
    refine td_aload_n 0 dX2_begin_8 rfl ?_
    refine gf_X2_9 rfl hk0 dX2_begin_9 ?_
    refine td_iload_n 1 dX2_begin_12 rfl ?_
    refine td_bipush (v := 120) dX2_begin_13 (by decide) ?_
    obtain ⟨e15, K⟩ := K
    refine td_iastc (j := (ix x1)) (kd_2_0 hk0) (by decide) e15 rfl dX2_begin_15 ?_
    refine td_aload_n 0 dX2_begin_16 rfl ?_
    refine gf_X2_15 rfl hk0 dX2_begin_17 ?_
    refine td_iload_n 1 dX2_begin_20 rfl ?_
    refine td_bipush (v := 120) dX2_begin_21 (by decide) ?_
    obtain ⟨e23, K⟩ := K
    refine td_iastc (j := (ix x1)) (kd_2_1 hk0) (by decide) e23 rfl dX2_begin_23 ?_
    refine td_aload_n 0 dX2_begin_24 rfl ?_
    refine gf_X2_18 rfl hk0 dX2_begin_25 ?_
    refine td_iload_n 1 dX2_begin_28 rfl ?_
    refine td_bipush (v := 120) dX2_begin_29 (by decide) ?_
    obtain ⟨e31, K⟩ := K
    refine td_iastc (j := (ix x1)) (kd_2_2 hk0) (by decide) e31 rfl dX2_begin_31 ?_
    refine td_aload_n 0 dX2_begin_32 rfl ?_
    refine gf_X2_21 rfl hk0 dX2_begin_33 ?_
    refine td_iload_n 1 dX2_begin_36 rfl ?_
    refine td_iconst (v := 0) dX2_begin_37 (by decide) ?_
    obtain ⟨e38, K⟩ := K
    refine td_iastc (j := (ix x1)) (kd_2_3 hk0) (by decide) e38 rfl dX2_begin_38 ?_
    refine td_iinc 1 (v := x1 + 1) (lv2 := [(0, .ref k0), (1, .int (x1 + 1))]) dX2_begin_39 rfl (congrArg (x1 + ·) (by decide)) (by decide) rfl ?_
    refine td_goto (tgt := 2) dX2_begin_42 (by decide) ?_
    exact K
set_option maxRecDepth 20000 in
theorem rX2_end_0 {G : td_G} {d : Nat} {Post : td_P} {k0 : Nat} {x1 x2 : Int32} {h : td_H} (hk0 : td_kd k0 = 2) (K : vp_in x1 12 ∧ (Post none (hu (hu h (k0 + 3) (ix x1) x2) k0 4 (((hu h (k0 + 3) (ix x1) x2) k0 4) ||| (jshl 1 x1))))) : td_J G d mX2_end Post 0 [(0, .ref k0), (1, .int x1), (2, .int x2)] [] h := by
  refine td_aload_n 0 dX2_end_0 rfl ?_
  refine gf_X2_18 rfl hk0 dX2_end_1 ?_
  refine td_iload_n 1 dX2_end_4 rfl ?_
  refine td_iload_n 2 dX2_end_5 rfl ?_
  obtain ⟨e6, K⟩ := K
  refine td_iastc (j := (ix x1)) (kd_2_2 hk0) (by decide) e6 rfl dX2_end_6 ?_
  refine td_aload_n 0 dX2_end_7 rfl ?_
  refine td_dup dX2_end_8 rfl ?_
  refine gf_X2_24 rfl hk0 dX2_end_9 ?_
  refine td_iconst (v := 1) dX2_end_12 (by decide) ?_
  refine td_iload_n 1 dX2_end_13 rfl ?_
  refine td_ishl dX2_end_14 ?_
  refine td_ior dX2_end_15 ?_
  refine pf_X2_24 rfl hk0 dX2_end_16 ?_
  exact td_return rfl dX2_end_19 K
set_option maxRecDepth 20000 in
theorem rX2_meet_0 {G : td_G} {d : Nat} {Post : td_P} {k0 : Nat} {x1 x2 : Int32} {h : td_H} (hk0 : td_kd k0 = 2) (K : vp_in x1 12 ∧ (vp_in x1 12 ∧ (td_J G d mX2_meet Post 12 [(0, .ref k0), (1, .int x1), (2, .int x2), (3, .int 0)] [] (hu h (k0 + 4) (ix x1) ((h (k0 + 4) (ix x1)) ||| x2))))) : td_J G d mX2_meet Post 0 [(0, .ref k0), (1, .int x1), (2, .int x2)] [] h := by
  refine td_aload_n 0 dX2_meet_0 rfl ?_
  refine gf_X2_21 rfl hk0 dX2_meet_1 ?_
  refine td_iload_n 1 dX2_meet_4 rfl ?_
  refine td_dup2 dX2_meet_5 rfl rfl ?_
  obtain ⟨e6, K⟩ := K
  refine td_ialdc (j := (ix x1)) (kd_2_3 hk0) (by decide) e6 rfl dX2_meet_6 ?_
  refine td_iload_n 2 dX2_meet_7 rfl ?_
  refine td_ior dX2_meet_8 ?_
  obtain ⟨e9, K⟩ := K
  refine td_iastc (j := (ix x1)) (kd_2_3 hk0) (by decide) e9 rfl dX2_meet_9 ?_
  refine td_iconst (v := 0) dX2_meet_10 (by decide) ?_
  refine td_istore_n (lv2 := [(0, .ref k0), (1, .int x1), (2, .int x2), (3, .int 0)]) dX2_meet_11 (by decide) rfl ?_
  exact K
set_option maxRecDepth 20000 in
theorem rX2_meet_12 {G : td_G} {d : Nat} {Post : td_P} {k0 : Nat} {x1 x2 x3 : Int32} {h : td_H} (hk0 : td_kd k0 = 2) (K : (12 ≤ x3 → td_J G d mX2_meet Post 50 [(0, .ref k0), (1, .int x1), (2, .int x2), (3, .int x3)] [] h) ∧ (¬ 12 ≤ x3 → (((jshr x2 x3) = 0 → td_J G d mX2_meet Post 50 [(0, .ref k0), (1, .int x1), (2, .int x2), (3, .int x3)] [] h) ∧ (¬ (jshr x2 x3) = 0 → ((((jshr x2 x3) &&& 1) = 0 → td_J G d mX2_meet Post 44 [(0, .ref k0), (1, .int x1), (2, .int x2), (3, .int x3)] [] h) ∧ (¬ ((jshr x2 x3) &&& 1) = 0 → (vp_in x3 12 ∧ (vp_in x3 12 ∧ (td_J G d mX2_meet Post 44 [(0, .ref k0), (1, .int x1), (2, .int x2), (3, .int x3)] [] (hu h (k0 + 4) (ix x3) ((h (k0 + 4) (ix x3)) ||| (jshl 1 x1)))))))))))) : td_J G d mX2_meet Post 12 [(0, .ref k0), (1, .int x1), (2, .int x2), (3, .int x3)] [] h := by
  refine td_iload_n 3 dX2_meet_12 rfl ?_
  refine td_bipush (v := 12) dX2_meet_13 (by decide) ?_
  obtain ⟨Kt, Kf⟩ := K
  refine td_icmp_ge (tgt := 50) dX2_meet_15 (by decide) (fun q => ?_) (fun q => ?_)
  · have K := Kt q
    exact K
  · have K := Kf q
    refine td_iload_n 2 dX2_meet_18 rfl ?_
    refine td_iload_n 3 dX2_meet_19 rfl ?_
    refine td_ishr dX2_meet_20 ?_
    obtain ⟨Kt, Kf⟩ := K
    refine td_if_eq (tgt := 50) dX2_meet_21 (by decide) (fun q => ?_) (fun q => ?_)
    · have K := Kt q
      exact K
    · have K := Kf q
      refine td_iload_n 2 dX2_meet_24 rfl ?_
      refine td_iload_n 3 dX2_meet_25 rfl ?_
      refine td_ishr dX2_meet_26 ?_
      refine td_iconst (v := 1) dX2_meet_27 (by decide) ?_
      refine td_iand dX2_meet_28 ?_
      obtain ⟨Kt, Kf⟩ := K
      refine td_if_eq (tgt := 44) dX2_meet_29 (by decide) (fun q => ?_) (fun q => ?_)
      · have K := Kt q
        exact K
      · have K := Kf q
        refine td_aload_n 0 dX2_meet_32 rfl ?_
        refine gf_X2_21 rfl hk0 dX2_meet_33 ?_
        refine td_iload_n 3 dX2_meet_36 rfl ?_
        refine td_dup2 dX2_meet_37 rfl rfl ?_
        obtain ⟨e38, K⟩ := K
        refine td_ialdc (j := (ix x3)) (kd_2_3 hk0) (by decide) e38 rfl dX2_meet_38 ?_
        refine td_iconst (v := 1) dX2_meet_39 (by decide) ?_
        refine td_iload_n 1 dX2_meet_40 rfl ?_
        refine td_ishl dX2_meet_41 ?_
        refine td_ior dX2_meet_42 ?_
        obtain ⟨e43, K⟩ := K
        refine td_iastc (j := (ix x3)) (kd_2_3 hk0) (by decide) e43 rfl dX2_meet_43 ?_
        exact K
set_option maxRecDepth 20000 in
theorem rX2_meet_44 {G : td_G} {d : Nat} {Post : td_P} {k0 : Nat} {x1 x2 x3 : Int32} {h : td_H} (hk0 : td_kd k0 = 2) (K : td_J G d mX2_meet Post 12 [(0, .ref k0), (1, .int x1), (2, .int x2), (3, .int (x3 + 1))] [] h) : td_J G d mX2_meet Post 44 [(0, .ref k0), (1, .int x1), (2, .int x2), (3, .int x3)] [] h := by
  refine td_iinc 3 (v := x3 + 1) (lv2 := [(0, .ref k0), (1, .int x1), (2, .int x2), (3, .int (x3 + 1))]) dX2_meet_44 rfl (congrArg (x3 + ·) (by decide)) (by decide) rfl ?_
  refine td_goto (tgt := 12) dX2_meet_47 (by decide) ?_
  exact K
set_option maxRecDepth 20000 in
theorem rX2_meet_50 {G : td_G} {d : Nat} {Post : td_P} {k0 : Nat} {x1 x2 x3 : Int32} {h : td_H} (hk0 : td_kd k0 = 2) (K : Post none h) : td_J G d mX2_meet Post 50 [(0, .ref k0), (1, .int x1), (2, .int x2), (3, .int x3)] [] h := by
  exact td_return rfl dX2_meet_50 K
set_option maxRecDepth 20000 in
theorem rX2_waitOf_0 {G : td_G} {d : Nat} {Post : td_P} {k0 k2 : Nat} {x1 : Int32} {h : td_H} (hk0 : td_kd k0 = 2) (hk2 : td_kd k2 = 5) (K : vp_in x1 12 ∧ (vp_in x1 12 ∧ (Post (some (.int ((h (k0 + 2) (ix x1)) - (h (k2 + 2) (ix x1))))) h))) : td_J G d mX2_waitOf Post 0 [(0, .ref k0), (1, .int x1), (2, .ref k2)] [] h := by
  refine td_aload_n 0 dX2_waitOf_0 rfl ?_
  refine gf_X2_15 rfl hk0 dX2_waitOf_1 ?_
  refine td_iload_n 1 dX2_waitOf_4 rfl ?_
  obtain ⟨e5, K⟩ := K
  refine td_ialdc (j := (ix x1)) (kd_2_1 hk0) (by decide) e5 rfl dX2_waitOf_5 ?_
  refine td_aload_n 2 dX2_waitOf_6 rfl ?_
  refine gf_X2_31 rfl hk2 dX2_waitOf_7 ?_
  refine td_iload_n 1 dX2_waitOf_10 rfl ?_
  obtain ⟨e11, K⟩ := K
  refine td_ialdc (j := (ix x1)) (kd_5_1 hk2) (by decide) e11 rfl dX2_waitOf_11 ?_
  refine td_isub dX2_waitOf_12 ?_
  exact td_ireturn rfl dX2_waitOf_13 K
set_option maxRecDepth 20000 in
theorem rX2_waitsTogether_0 {G : td_G} {d : Nat} {Post : td_P} {k0 k1 : Nat} {h : td_H} (hk0 : td_kd k0 = 2) (hk1 : td_kd k1 = 5) (K : td_J G d mX2_waitsTogether Post 4 [(0, .ref k0), (1, .ref k1), (2, .int 0), (3, .int 0)] [] h) : td_J G d mX2_waitsTogether Post 0 [(0, .ref k0), (1, .ref k1)] [] h := by
  refine td_iconst (v := 0) dX2_waitsTogether_0 (by decide) ?_
  refine td_istore_n (lv2 := [(0, .ref k0), (1, .ref k1), (2, .int 0)]) dX2_waitsTogether_1 (by decide) rfl ?_
  refine td_iconst (v := 0) dX2_waitsTogether_2 (by decide) ?_
  refine td_istore_n (lv2 := [(0, .ref k0), (1, .ref k1), (2, .int 0), (3, .int 0)]) dX2_waitsTogether_3 (by decide) rfl ?_
  exact K
set_option maxRecDepth 20000 in
theorem rX2_waitsTogether_4 {G : td_G} {d : Nat} {Post : td_P} {k0 k1 : Nat} {x2 x3 : Int32} {h : td_H} (hk0 : td_kd k0 = 2) (hk1 : td_kd k1 = 5) (K : ((h k1 4) ≤ x3 → (Post (some (.int x2)) h)) ∧ (¬ (h k1 4) ≤ x3 → td_J G d mX2_waitsTogether Post 16 [(0, .ref k0), (1, .ref k1), (2, .int x2), (3, .int x3)] [.ref k1, .int x3, .ref k0, .int x2] h)) : td_J G d mX2_waitsTogether Post 4 [(0, .ref k0), (1, .ref k1), (2, .int x2), (3, .int x3)] [] h := by
  refine td_iload_n 3 dX2_waitsTogether_4 rfl ?_
  refine td_aload_n 1 dX2_waitsTogether_5 rfl ?_
  refine gf_X2_36 rfl hk1 dX2_waitsTogether_6 ?_
  obtain ⟨Kt, Kf⟩ := K
  refine td_icmp_ge (tgt := 27) dX2_waitsTogether_9 (by decide) (fun q => ?_) (fun q => ?_)
  · have K := Kt q
    refine td_iload_n 2 dX2_waitsTogether_27 rfl ?_
    exact td_ireturn rfl dX2_waitsTogether_28 K
  · have K := Kf q
    refine td_iload_n 2 dX2_waitsTogether_12 rfl ?_
    refine td_aload_n 0 dX2_waitsTogether_13 rfl ?_
    refine td_iload_n 3 dX2_waitsTogether_14 rfl ?_
    refine td_aload_n 1 dX2_waitsTogether_15 rfl ?_
    exact K
set_option maxRecDepth 20000 in
theorem rX2_waitsTogether_19 {G : td_G} {d : Nat} {Post : td_P} {k0 k1 : Nat} {x2 x3 s0 s1 : Int32} {h : td_H} (hk0 : td_kd k0 = 2) (hk1 : td_kd k1 = 5) (K : td_J G d mX2_waitsTogether Post 4 [(0, .ref k0), (1, .ref k1), (2, .int (s0 + s1)), (3, .int (x3 + 1))] [] h) : td_J G d mX2_waitsTogether Post 19 [(0, .ref k0), (1, .ref k1), (2, .int x2), (3, .int x3)] [.int s1, .int s0] h := by
  refine td_iadd dX2_waitsTogether_19 ?_
  refine td_istore_n (lv2 := [(0, .ref k0), (1, .ref k1), (2, .int (s0 + s1)), (3, .int x3)]) dX2_waitsTogether_20 (by decide) rfl ?_
  refine td_iinc 3 (v := x3 + 1) (lv2 := [(0, .ref k0), (1, .ref k1), (2, .int (s0 + s1)), (3, .int (x3 + 1))]) dX2_waitsTogether_21 rfl (congrArg (x3 + ·) (by decide)) (by decide) rfl ?_
  refine td_goto (tgt := 4) dX2_waitsTogether_24 (by decide) ?_
  exact K
set_option maxRecDepth 20000 in
theorem rX2_lastEnd_0 {G : td_G} {d : Nat} {Post : td_P} {k0 : Nat} {x1 : Int32} {h : td_H} (hk0 : td_kd k0 = 2) (K : td_J G d mX2_lastEnd Post 4 [(0, .ref k0), (1, .int x1), (2, .int 0), (3, .int 0)] [] h) : td_J G d mX2_lastEnd Post 0 [(0, .ref k0), (1, .int x1)] [] h := by
  refine td_iconst (v := 0) dX2_lastEnd_0 (by decide) ?_
  refine td_istore_n (lv2 := [(0, .ref k0), (1, .int x1), (2, .int 0)]) dX2_lastEnd_1 (by decide) rfl ?_
  refine td_iconst (v := 0) dX2_lastEnd_2 (by decide) ?_
  refine td_istore_n (lv2 := [(0, .ref k0), (1, .int x1), (2, .int 0), (3, .int 0)]) dX2_lastEnd_3 (by decide) rfl ?_
  exact K
set_option maxRecDepth 20000 in
theorem rX2_lastEnd_4 {G : td_G} {d : Nat} {Post : td_P} {k0 : Nat} {x1 x2 x3 : Int32} {h : td_H} (hk0 : td_kd k0 = 2) (K : (x1 ≤ x3 → td_J G d mX2_lastEnd Post 32 [(0, .ref k0), (1, .int x1), (2, .int x2), (3, .int x3)] [] h) ∧ (¬ x1 ≤ x3 → ((12 ≤ x3 → td_J G d mX2_lastEnd Post 32 [(0, .ref k0), (1, .int x1), (2, .int x2), (3, .int x3)] [] h) ∧ (¬ 12 ≤ x3 → (vp_in x3 12 ∧ (td_J G d mX2_lastEnd Post 22 [(0, .ref k0), (1, .int x1), (2, .int x2), (3, .int x3)] [.int (h (k0 + 3) (ix x3)), .int x2] h)))))) : td_J G d mX2_lastEnd Post 4 [(0, .ref k0), (1, .int x1), (2, .int x2), (3, .int x3)] [] h := by
  refine td_iload_n 3 dX2_lastEnd_4 rfl ?_
  refine td_iload_n 1 dX2_lastEnd_5 rfl ?_
  obtain ⟨Kt, Kf⟩ := K
  refine td_icmp_ge (tgt := 32) dX2_lastEnd_6 (by decide) (fun q => ?_) (fun q => ?_)
  · have K := Kt q
    exact K
  · have K := Kf q
    refine td_iload_n 3 dX2_lastEnd_9 rfl ?_
    refine td_bipush (v := 12) dX2_lastEnd_10 (by decide) ?_
    obtain ⟨Kt, Kf⟩ := K
    refine td_icmp_ge (tgt := 32) dX2_lastEnd_12 (by decide) (fun q => ?_) (fun q => ?_)
    · have K := Kt q
      exact K
    · have K := Kf q
      refine td_iload_n 2 dX2_lastEnd_15 rfl ?_
      refine td_aload_n 0 dX2_lastEnd_16 rfl ?_
      refine gf_X2_18 rfl hk0 dX2_lastEnd_17 ?_
      refine td_iload_n 3 dX2_lastEnd_20 rfl ?_
      obtain ⟨e21, K⟩ := K
      refine td_ialdc (j := (ix x3)) (kd_2_2 hk0) (by decide) e21 rfl dX2_lastEnd_21 ?_
      exact K
set_option maxRecDepth 20000 in
theorem rX2_lastEnd_25 {G : td_G} {d : Nat} {Post : td_P} {k0 : Nat} {x1 x2 x3 s0 : Int32} {h : td_H} (hk0 : td_kd k0 = 2) (K : td_J G d mX2_lastEnd Post 4 [(0, .ref k0), (1, .int x1), (2, .int s0), (3, .int (x3 + 1))] [] h) : td_J G d mX2_lastEnd Post 25 [(0, .ref k0), (1, .int x1), (2, .int x2), (3, .int x3)] [.int s0] h := by
  refine td_istore_n (lv2 := [(0, .ref k0), (1, .int x1), (2, .int s0), (3, .int x3)]) dX2_lastEnd_25 (by decide) rfl ?_
  refine td_iinc 3 (v := x3 + 1) (lv2 := [(0, .ref k0), (1, .int x1), (2, .int s0), (3, .int (x3 + 1))]) dX2_lastEnd_26 rfl (congrArg (x3 + ·) (by decide)) (by decide) rfl ?_
  refine td_goto (tgt := 4) dX2_lastEnd_29 (by decide) ?_
  exact K
set_option maxRecDepth 20000 in
theorem rX2_lastEnd_32 {G : td_G} {d : Nat} {Post : td_P} {k0 : Nat} {x1 x2 x3 : Int32} {h : td_H} (hk0 : td_kd k0 = 2) (K : Post (some (.int x2)) h) : td_J G d mX2_lastEnd Post 32 [(0, .ref k0), (1, .int x1), (2, .int x2), (3, .int x3)] [] h := by
  refine td_iload_n 2 dX2_lastEnd_32 rfl ?_
  exact td_ireturn rfl dX2_lastEnd_33 K
set_option maxRecDepth 20000 in
theorem rX3_write_0 {G : td_G} {d : Nat} {Post : td_P} {k2 : Nat} {x1 : Int32} {h : td_H} (hk2 : td_kd k2 = 0) (K : vp_in x1 120 ∧ (vp_in x1 120 ∧ (vp_in x1 120 ∧ (vp_in x1 120 ∧ (td_J G d mX3_write Post 45 [(0, .ref 37), (1, .int x1), (2, .ref k2), (3, .int 0)] [] (hu (hu (hu (hu h 38 (ix x1) (h (k2 + 1) 7)) 39 (ix x1) ((hu h 38 (ix x1) (h (k2 + 1) 7)) k2 12)) 40 (ix x1) ((hu (hu h 38 (ix x1) (h (k2 + 1) 7)) 39 (ix x1) ((hu h 38 (ix x1) (h (k2 + 1) 7)) k2 12)) k2 10)) 41 (ix x1) ((hu (hu (hu h 38 (ix x1) (h (k2 + 1) 7)) 39 (ix x1) ((hu h 38 (ix x1) (h (k2 + 1) 7)) k2 12)) 40 (ix x1) ((hu (hu h 38 (ix x1) (h (k2 + 1) 7)) 39 (ix x1) ((hu h 38 (ix x1) (h (k2 + 1) 7)) k2 12)) k2 10)) k2 13))))))) : td_J G d mX3_write Post 0 [(0, .ref 37), (1, .int x1), (2, .ref k2)] [] h := by
  refine td_aload_n 0 dX3_write_0 rfl ?_
  refine gf_X3_9 rfl kp_37 dX3_write_1 ?_
  refine td_iload_n 1 dX3_write_4 rfl ?_
  refine td_aload_n 2 dX3_write_5 rfl ?_
  refine gf_X3_27 rfl hk2 dX3_write_6 ?_
  refine gf_X3_33 rfl (kd_0_0 hk2) dX3_write_9 ?_
  obtain ⟨e12, K⟩ := K
  refine td_iastc (j := (ix x1)) kp_38 (by decide) e12 rfl dX3_write_12 ?_
  refine td_aload_n 0 dX3_write_13 rfl ?_
  refine gf_X3_15 rfl kp_37 dX3_write_14 ?_
  refine td_iload_n 1 dX3_write_17 rfl ?_
  refine td_aload_n 2 dX3_write_18 rfl ?_
  refine gf_X3_38 rfl hk2 dX3_write_19 ?_
  obtain ⟨e22, K⟩ := K
  refine td_iastc (j := (ix x1)) kp_39 (by decide) e22 rfl dX3_write_22 ?_
  refine td_aload_n 0 dX3_write_23 rfl ?_
  refine gf_X3_18 rfl kp_37 dX3_write_24 ?_
  refine td_iload_n 1 dX3_write_27 rfl ?_
  refine td_aload_n 2 dX3_write_28 rfl ?_
  refine gf_X3_40 rfl hk2 dX3_write_29 ?_
  obtain ⟨e32, K⟩ := K
  refine td_iastc (j := (ix x1)) kp_40 (by decide) e32 rfl dX3_write_32 ?_
  refine td_aload_n 0 dX3_write_33 rfl ?_
  refine gf_X3_21 rfl kp_37 dX3_write_34 ?_
  refine td_iload_n 1 dX3_write_37 rfl ?_
  refine td_aload_n 2 dX3_write_38 rfl ?_
  refine gf_X3_42 rfl hk2 dX3_write_39 ?_
  obtain ⟨e42, K⟩ := K
  refine td_iastc (j := (ix x1)) kp_41 (by decide) e42 rfl dX3_write_42 ?_
  refine td_iconst (v := 0) dX3_write_43 (by decide) ?_
  refine td_istore_n (lv2 := [(0, .ref 37), (1, .int x1), (2, .ref k2), (3, .int 0)]) dX3_write_44 (by decide) rfl ?_
  exact K
set_option maxRecDepth 20000 in
theorem rX3_write_45 {G : td_G} {d : Nat} {Post : td_P} {k2 : Nat} {x1 x3 : Int32} {h : td_H} (hk2 : td_kd k2 = 0) (K : (4 ≤ x3 → (Post none h)) ∧ (¬ 4 ≤ x3 → (vp_in x3 4 ∧ (vp_in ((x1 * 4) + x3) 480 ∧ (td_J G d mX3_write Post 45 [(0, .ref 37), (1, .int x1), (2, .ref k2), (3, .int (x3 + 1))] [] (hu h 42 (ix ((x1 * 4) + x3)) (h ((k2 + 1) + 3) (ix x3)))))))) : td_J G d mX3_write Post 45 [(0, .ref 37), (1, .int x1), (2, .ref k2), (3, .int x3)] [] h := by
  refine td_iload_n 3 dX3_write_45 rfl ?_
  refine td_iconst (v := 4) dX3_write_46 (by decide) ?_
  obtain ⟨Kt, Kf⟩ := K
  refine td_icmp_ge (tgt := 75) dX3_write_47 (by decide) (fun q => ?_) (fun q => ?_)
  · have K := Kt q
    exact td_return rfl dX3_write_75 K
  · have K := Kf q
    refine td_aload_n 0 dX3_write_50 rfl ?_
    refine gf_X3_24 rfl kp_37 dX3_write_51 ?_
    refine td_iload_n 1 dX3_write_54 rfl ?_
    refine td_iconst (v := 4) dX3_write_55 (by decide) ?_
    refine td_imul dX3_write_56 ?_
    refine td_iload_n 3 dX3_write_57 rfl ?_
    refine td_iadd dX3_write_58 ?_
    refine td_aload_n 2 dX3_write_59 rfl ?_
    refine gf_X3_27 rfl hk2 dX3_write_60 ?_
    refine gf_X3_44 rfl (kd_0_0 hk2) dX3_write_63 ?_
    refine td_iload_n 3 dX3_write_66 rfl ?_
    obtain ⟨e67, K⟩ := K
    refine td_ialdc (j := (ix x3)) (kd_1_2 (kd_0_0 hk2)) (by decide) e67 rfl dX3_write_67 ?_
    obtain ⟨e68, K⟩ := K
    refine td_iastc (j := (ix ((x1 * 4) + x3))) kp_42 (by decide) e68 rfl dX3_write_68 ?_
    refine td_iinc 3 (v := x3 + 1) (lv2 := [(0, .ref 37), (1, .int x1), (2, .ref k2), (3, .int (x3 + 1))]) dX3_write_69 rfl (congrArg (x3 + ·) (by decide)) (by decide) rfl ?_
    refine td_goto (tgt := 45) dX3_write_72 (by decide) ?_
    exact K
set_option maxRecDepth 20000 in
theorem rX3_insideAt_0 {G : td_G} {d : Nat} {Post : td_P} {x1 : Int32} {h : td_H} (K : td_J G d mX3_insideAt Post 4 [(0, .ref 37), (1, .int x1), (2, .int 0), (3, .int 0)] [] h) : td_J G d mX3_insideAt Post 0 [(0, .ref 37), (1, .int x1)] [] h := by
  refine td_iconst (v := 0) dX3_insideAt_0 (by decide) ?_
  refine td_istore_n (lv2 := [(0, .ref 37), (1, .int x1), (2, .int 0)]) dX3_insideAt_1 (by decide) rfl ?_
  refine td_iconst (v := 0) dX3_insideAt_2 (by decide) ?_
  refine td_istore_n (lv2 := [(0, .ref 37), (1, .int x1), (2, .int 0), (3, .int 0)]) dX3_insideAt_3 (by decide) rfl ?_
  exact K
set_option maxRecDepth 20000 in
theorem rX3_insideAt_4 {G : td_G} {d : Nat} {Post : td_P} {x1 x2 x3 : Int32} {h : td_H} (K : (4 ≤ x3 → (Post (some (.int x2)) h)) ∧ (¬ 4 ≤ x3 → (vp_in ((x1 * 4) + x3) 480 ∧ (td_J G d mX3_insideAt Post 4 [(0, .ref 37), (1, .int x1), (2, .int (x2 ||| (h 42 (ix ((x1 * 4) + x3))))), (3, .int (x3 + 1))] [] h)))) : td_J G d mX3_insideAt Post 4 [(0, .ref 37), (1, .int x1), (2, .int x2), (3, .int x3)] [] h := by
  refine td_iload_n 3 dX3_insideAt_4 rfl ?_
  refine td_iconst (v := 4) dX3_insideAt_5 (by decide) ?_
  obtain ⟨Kt, Kf⟩ := K
  refine td_icmp_ge (tgt := 28) dX3_insideAt_6 (by decide) (fun q => ?_) (fun q => ?_)
  · have K := Kt q
    refine td_iload_n 2 dX3_insideAt_28 rfl ?_
    exact td_ireturn rfl dX3_insideAt_29 K
  · have K := Kf q
    refine td_iload_n 2 dX3_insideAt_9 rfl ?_
    refine td_aload_n 0 dX3_insideAt_10 rfl ?_
    refine gf_X3_24 rfl kp_37 dX3_insideAt_11 ?_
    refine td_iload_n 1 dX3_insideAt_14 rfl ?_
    refine td_iconst (v := 4) dX3_insideAt_15 (by decide) ?_
    refine td_imul dX3_insideAt_16 ?_
    refine td_iload_n 3 dX3_insideAt_17 rfl ?_
    refine td_iadd dX3_insideAt_18 ?_
    obtain ⟨e19, K⟩ := K
    refine td_ialdc (j := (ix ((x1 * 4) + x3))) kp_42 (by decide) e19 rfl dX3_insideAt_19 ?_
    refine td_ior dX3_insideAt_20 ?_
    refine td_istore_n (lv2 := [(0, .ref 37), (1, .int x1), (2, .int (x2 ||| (h 42 (ix ((x1 * 4) + x3))))), (3, .int x3)]) dX3_insideAt_21 (by decide) rfl ?_
    refine td_iinc 3 (v := x3 + 1) (lv2 := [(0, .ref 37), (1, .int x1), (2, .int (x2 ||| (h 42 (ix ((x1 * 4) + x3))))), (3, .int (x3 + 1))]) dX3_insideAt_22 rfl (congrArg (x3 + ·) (by decide)) (by decide) rfl ?_
    refine td_goto (tgt := 4) dX3_insideAt_25 (by decide) ?_
    exact K
set_option maxRecDepth 20000 in
theorem rX4_begin_0 {G : td_G} {d : Nat} {Post : td_P} {k1 : Nat} {x2 : Int32} {h : td_H} (hk1 : td_kd k1 = 5) (K : td_J G d mX4_begin Post 24 [(0, .ref 69), (1, .ref k1), (2, .int x2), (3, .int 0)] [] (hu (hu (hu (hu h 69 4 x2) 69 5 120) 69 6 2147483647) 69 3 0)) : td_J G d mX4_begin Post 0 [(0, .ref 69), (1, .ref k1), (2, .int x2)] [] h := by
  refine td_aload_n 0 dX4_begin_0 rfl ?_
  refine td_iload_n 2 dX4_begin_1 rfl ?_
  refine pf_X4_21 rfl kp_69 dX4_begin_2 ?_
  refine td_aload_n 0 dX4_begin_5 rfl ?_
  refine td_bipush (v := 120) dX4_begin_6 (by decide) ?_
  refine pf_X4_25 rfl kp_69 dX4_begin_8 ?_
  refine td_aload_n 0 dX4_begin_11 rfl ?_
  refine td_ldc (v := 2147483647) kw_X4_30 dX4_begin_12 ?_
  refine pf_X4_31 rfl kp_69 dX4_begin_14 ?_
  refine td_aload_n 0 dX4_begin_17 rfl ?_
  refine td_iconst (v := 0) dX4_begin_18 (by decide) ?_
  refine pf_X4_34 rfl kp_69 dX4_begin_19 ?_
  refine td_iconst (v := 0) dX4_begin_22 (by decide) ?_
  refine td_istore_n (lv2 := [(0, .ref 69), (1, .ref k1), (2, .int x2), (3, .int 0)]) dX4_begin_23 (by decide) rfl ?_
  exact K
set_option maxRecDepth 20000 in
theorem rX4_begin_24 {G : td_G} {d : Nat} {Post : td_P} {k1 : Nat} {x2 x3 : Int32} {h : td_H} (hk1 : td_kd k1 = 5) (K : ((h k1 4) ≤ x3 → td_J G d mX4_begin Post 89 [(0, .ref 69), (1, .ref k1), (2, .int x2), (3, .int x3)] [] h) ∧ (¬ (h k1 4) ≤ x3 → ((6 ≤ (h 69 3) → td_J G d mX4_begin Post 89 [(0, .ref 69), (1, .ref k1), (2, .int x2), (3, .int x3)] [] h) ∧ (¬ 6 ≤ (h 69 3) → ((((jshr x2 x3) &&& 1) = 0 → td_J G d mX4_begin Post 83 [(0, .ref 69), (1, .ref k1), (2, .int x2), (3, .int x3)] [] h) ∧ (¬ ((jshr x2 x3) &&& 1) = 0 → (vp_in (h 69 3) 6 ∧ (vp_in x3 12 ∧ (td_J G d mX4_begin Post 70 [(0, .ref 69), (1, .ref k1), (2, .int x2), (3, .int x3)] [.int ((hu h 70 (ix (h 69 3)) x3) 69 3), .int ((hu h 70 (ix (h 69 3)) x3) (k1 + 2) (ix x3)), .ref 69] (hu h 70 (ix (h 69 3)) x3)))))))))) : td_J G d mX4_begin Post 24 [(0, .ref 69), (1, .ref k1), (2, .int x2), (3, .int x3)] [] h := by
  refine td_iload_n 3 dX4_begin_24 rfl ?_
  refine td_aload_n 1 dX4_begin_25 rfl ?_
  refine gf_X4_37 rfl hk1 dX4_begin_26 ?_
  obtain ⟨Kt, Kf⟩ := K
  refine td_icmp_ge (tgt := 89) dX4_begin_29 (by decide) (fun q => ?_) (fun q => ?_)
  · have K := Kt q
    exact K
  · have K := Kf q
    refine td_aload_n 0 dX4_begin_32 rfl ?_
    refine gf_X4_34 rfl kp_69 dX4_begin_33 ?_
    refine td_bipush (v := 6) dX4_begin_36 (by decide) ?_
    obtain ⟨Kt, Kf⟩ := K
    refine td_icmp_ge (tgt := 89) dX4_begin_38 (by decide) (fun q => ?_) (fun q => ?_)
    · have K := Kt q
      exact K
    · have K := Kf q
      refine td_iload_n 2 dX4_begin_41 rfl ?_
      refine td_iload_n 3 dX4_begin_42 rfl ?_
      refine td_ishr dX4_begin_43 ?_
      refine td_iconst (v := 1) dX4_begin_44 (by decide) ?_
      refine td_iand dX4_begin_45 ?_
      obtain ⟨Kt, Kf⟩ := K
      refine td_if_eq (tgt := 83) dX4_begin_46 (by decide) (fun q => ?_) (fun q => ?_)
      · have K := Kt q
        exact K
      · have K := Kf q
        refine td_aload_n 0 dX4_begin_49 rfl ?_
        refine gf_X4_9 rfl kp_69 dX4_begin_50 ?_
        refine td_aload_n 0 dX4_begin_53 rfl ?_
        refine gf_X4_34 rfl kp_69 dX4_begin_54 ?_
        refine td_iload_n 3 dX4_begin_57 rfl ?_
        obtain ⟨e58, K⟩ := K
        refine td_iastc (j := (ix (h 69 3))) kp_70 (by decide) e58 rfl dX4_begin_58 ?_
        refine td_aload_n 0 dX4_begin_59 rfl ?_
        refine td_aload_n 1 dX4_begin_60 rfl ?_
        refine gf_X4_42 rfl hk1 dX4_begin_61 ?_
        refine td_iload_n 3 dX4_begin_64 rfl ?_
        obtain ⟨e65, K⟩ := K
        refine td_ialdc (j := (ix x3)) (kd_5_1 hk1) (by decide) e65 rfl dX4_begin_65 ?_
        refine td_aload_n 0 dX4_begin_66 rfl ?_
        refine gf_X4_34 rfl kp_69 dX4_begin_67 ?_
        exact K
set_option maxRecDepth 20000 in
theorem rX4_begin_73 {G : td_G} {d : Nat} {Post : td_P} {k1 : Nat} {x2 x3 : Int32} {h : td_H} (hk1 : td_kd k1 = 5) (K : td_J G d mX4_begin Post 83 [(0, .ref 69), (1, .ref k1), (2, .int x2), (3, .int x3)] [] (hu h 69 3 ((h 69 3) + 1))) : td_J G d mX4_begin Post 73 [(0, .ref 69), (1, .ref k1), (2, .int x2), (3, .int x3)] [] h := by
  refine td_aload_n 0 dX4_begin_73 rfl ?_
  refine td_dup dX4_begin_74 rfl ?_
  refine gf_X4_34 rfl kp_69 dX4_begin_75 ?_
  refine td_iconst (v := 1) dX4_begin_78 (by decide) ?_
  refine td_iadd dX4_begin_79 ?_
  refine pf_X4_34 rfl kp_69 dX4_begin_80 ?_
  exact K
set_option maxRecDepth 20000 in
theorem rX4_begin_83 {G : td_G} {d : Nat} {Post : td_P} {k1 : Nat} {x2 x3 : Int32} {h : td_H} (hk1 : td_kd k1 = 5) (K : td_J G d mX4_begin Post 24 [(0, .ref 69), (1, .ref k1), (2, .int x2), (3, .int (x3 + 1))] [] h) : td_J G d mX4_begin Post 83 [(0, .ref 69), (1, .ref k1), (2, .int x2), (3, .int x3)] [] h := by
  refine td_iinc 3 (v := x3 + 1) (lv2 := [(0, .ref 69), (1, .ref k1), (2, .int x2), (3, .int (x3 + 1))]) dX4_begin_83 rfl (congrArg (x3 + ·) (by decide)) (by decide) rfl ?_
  refine td_goto (tgt := 24) dX4_begin_86 (by decide) ?_
  exact K
set_option maxRecDepth 20000 in
theorem rX4_begin_89 {G : td_G} {d : Nat} {Post : td_P} {k1 : Nat} {x2 x3 : Int32} {h : td_H} (hk1 : td_kd k1 = 5) (K : Post none h) : td_J G d mX4_begin Post 89 [(0, .ref 69), (1, .ref k1), (2, .int x2), (3, .int x3)] [] h := by
  exact td_return rfl dX4_begin_89 K
set_option maxRecDepth 20000 in
theorem rX4_insertTick_0 {G : td_G} {d : Nat} {Post : td_P} {x1 x2 : Int32} {h : td_H} (K : td_J G d mX4_insertTick Post 2 [(0, .ref 69), (1, .int x1), (2, .int x2), (3, .int x2)] [] h) : td_J G d mX4_insertTick Post 0 [(0, .ref 69), (1, .int x1), (2, .int x2)] [] h := by
  refine td_iload_n 2 dX4_insertTick_0 rfl ?_
  refine td_istore_n (lv2 := [(0, .ref 69), (1, .int x1), (2, .int x2), (3, .int x2)]) dX4_insertTick_1 (by decide) rfl ?_
  exact K
set_option maxRecDepth 20000 in
theorem rX4_insertTick_2 {G : td_G} {d : Nat} {Post : td_P} {x1 x2 x3 : Int32} {h : td_H} (K : (x3 ≤ 0 → td_J G d mX4_insertTick Post 38 [(0, .ref 69), (1, .int x1), (2, .int x2), (3, .int x3)] [] h) ∧ (¬ x3 ≤ 0 → (vp_in (x3 - 1) 6 ∧ (((h 72 (ix (x3 - 1))) ≤ x1 → td_J G d mX4_insertTick Post 38 [(0, .ref 69), (1, .int x1), (2, .int x2), (3, .int x3)] [] h) ∧ (¬ (h 72 (ix (x3 - 1))) ≤ x1 → (vp_in (x3 - 1) 6 ∧ (vp_in x3 6 ∧ (td_J G d mX4_insertTick Post 2 [(0, .ref 69), (1, .int x1), (2, .int x2), (3, .int (x3 + (-1)))] [] (hu h 72 (ix x3) (h 72 (ix (x3 - 1)))))))))))) : td_J G d mX4_insertTick Post 2 [(0, .ref 69), (1, .int x1), (2, .int x2), (3, .int x3)] [] h := by
  refine td_iload_n 3 dX4_insertTick_2 rfl ?_
  obtain ⟨Kt, Kf⟩ := K
  refine td_if_le (tgt := 38) dX4_insertTick_3 (by decide) (fun q => ?_) (fun q => ?_)
  · have K := Kt q
    exact K
  · have K := Kf q
    refine td_aload_n 0 dX4_insertTick_6 rfl ?_
    refine gf_X4_18 rfl kp_69 dX4_insertTick_7 ?_
    refine td_iload_n 3 dX4_insertTick_10 rfl ?_
    refine td_iconst (v := 1) dX4_insertTick_11 (by decide) ?_
    refine td_isub dX4_insertTick_12 ?_
    obtain ⟨e13, K⟩ := K
    refine td_ialdc (j := (ix (x3 - 1))) kp_72 (by decide) e13 rfl dX4_insertTick_13 ?_
    refine td_iload_n 1 dX4_insertTick_14 rfl ?_
    obtain ⟨Kt, Kf⟩ := K
    refine td_icmp_le (tgt := 38) dX4_insertTick_15 (by decide) (fun q => ?_) (fun q => ?_)
    · have K := Kt q
      exact K
    · have K := Kf q
      refine td_aload_n 0 dX4_insertTick_18 rfl ?_
      refine gf_X4_18 rfl kp_69 dX4_insertTick_19 ?_
      refine td_iload_n 3 dX4_insertTick_22 rfl ?_
      refine td_aload_n 0 dX4_insertTick_23 rfl ?_
      refine gf_X4_18 rfl kp_69 dX4_insertTick_24 ?_
      refine td_iload_n 3 dX4_insertTick_27 rfl ?_
      refine td_iconst (v := 1) dX4_insertTick_28 (by decide) ?_
      refine td_isub dX4_insertTick_29 ?_
      obtain ⟨e30, K⟩ := K
      refine td_ialdc (j := (ix (x3 - 1))) kp_72 (by decide) e30 rfl dX4_insertTick_30 ?_
      obtain ⟨e31, K⟩ := K
      refine td_iastc (j := (ix x3)) kp_72 (by decide) e31 rfl dX4_insertTick_31 ?_
      refine td_iinc 3 (v := x3 + (-1)) (lv2 := [(0, .ref 69), (1, .int x1), (2, .int x2), (3, .int (x3 + (-1)))]) dX4_insertTick_32 rfl (congrArg (x3 + ·) (by decide)) (by decide) rfl ?_
      refine td_goto (tgt := 2) dX4_insertTick_35 (by decide) ?_
      exact K
set_option maxRecDepth 20000 in
theorem rX4_insertTick_38 {G : td_G} {d : Nat} {Post : td_P} {x1 x2 x3 : Int32} {h : td_H} (K : vp_in x3 6 ∧ (Post none (hu h 72 (ix x3) x1))) : td_J G d mX4_insertTick Post 38 [(0, .ref 69), (1, .int x1), (2, .int x2), (3, .int x3)] [] h := by
  refine td_aload_n 0 dX4_insertTick_38 rfl ?_
  refine gf_X4_18 rfl kp_69 dX4_insertTick_39 ?_
  refine td_iload_n 3 dX4_insertTick_42 rfl ?_
  refine td_iload_n 1 dX4_insertTick_43 rfl ?_
  obtain ⟨e44, K⟩ := K
  refine td_iastc (j := (ix x3)) kp_72 (by decide) e44 rfl dX4_insertTick_44 ?_
  exact td_return rfl dX4_insertTick_45 K
set_option maxRecDepth 20000 in
theorem rX4_isNew_0 {G : td_G} {d : Nat} {Post : td_P} {h : td_H} (K : td_J G d mX4_isNew Post 2 [(0, .ref 69), (1, .int 1)] [] h) : td_J G d mX4_isNew Post 0 [(0, .ref 69)] [] h := by
  refine td_iconst (v := 1) dX4_isNew_0 (by decide) ?_
  refine td_istore_n (lv2 := [(0, .ref 69), (1, .int 1)]) dX4_isNew_1 (by decide) rfl ?_
  exact K
set_option maxRecDepth 20000 in
theorem rX4_isNew_2 {G : td_G} {d : Nat} {Post : td_P} {x1 : Int32} {h : td_H} (K : ((h 69 3) ≤ x1 → (Post (some (.int 1)) h)) ∧ (¬ (h 69 3) ≤ x1 → (vp_in (x1 - 1) 6 ∧ (vp_in x1 6 ∧ ((¬ (h 72 (ix (x1 - 1))) = (h 72 (ix x1)) → td_J G d mX4_isNew Post 46 [(0, .ref 69), (1, .int x1)] [] h) ∧ ((h 72 (ix (x1 - 1))) = (h 72 (ix x1)) → (vp_in (x1 - 1) 6 ∧ (vp_in x1 6 ∧ (((h 70 (ix (x1 - 1))) ≤ (h 70 (ix x1)) → td_J G d mX4_isNew Post 46 [(0, .ref 69), (1, .int x1)] [] h) ∧ (¬ (h 70 (ix (x1 - 1))) ≤ (h 70 (ix x1)) → (Post (some (.int 0)) h))))))))))) : td_J G d mX4_isNew Post 2 [(0, .ref 69), (1, .int x1)] [] h := by
  refine td_iload_n 1 dX4_isNew_2 rfl ?_
  refine td_aload_n 0 dX4_isNew_3 rfl ?_
  refine gf_X4_34 rfl kp_69 dX4_isNew_4 ?_
  obtain ⟨Kt, Kf⟩ := K
  refine td_icmp_ge (tgt := 52) dX4_isNew_7 (by decide) (fun q => ?_) (fun q => ?_)
  · have K := Kt q
    refine td_iconst (v := 1) dX4_isNew_52 (by decide) ?_
    exact td_zreturn rfl rfl dX4_isNew_53 K
  · have K := Kf q
    refine td_aload_n 0 dX4_isNew_10 rfl ?_
    refine gf_X4_18 rfl kp_69 dX4_isNew_11 ?_
    refine td_iload_n 1 dX4_isNew_14 rfl ?_
    refine td_iconst (v := 1) dX4_isNew_15 (by decide) ?_
    refine td_isub dX4_isNew_16 ?_
    obtain ⟨e17, K⟩ := K
    refine td_ialdc (j := (ix (x1 - 1))) kp_72 (by decide) e17 rfl dX4_isNew_17 ?_
    refine td_aload_n 0 dX4_isNew_18 rfl ?_
    refine gf_X4_18 rfl kp_69 dX4_isNew_19 ?_
    refine td_iload_n 1 dX4_isNew_22 rfl ?_
    obtain ⟨e23, K⟩ := K
    refine td_ialdc (j := (ix x1)) kp_72 (by decide) e23 rfl dX4_isNew_23 ?_
    obtain ⟨Kt, Kf⟩ := K
    refine td_icmp_ne (tgt := 46) dX4_isNew_24 (by decide) (fun q => ?_) (fun q => ?_)
    · have K := Kt q
      exact K
    · have K := Kf q
      refine td_aload_n 0 dX4_isNew_27 rfl ?_
      refine gf_X4_9 rfl kp_69 dX4_isNew_28 ?_
      refine td_iload_n 1 dX4_isNew_31 rfl ?_
      refine td_iconst (v := 1) dX4_isNew_32 (by decide) ?_
      refine td_isub dX4_isNew_33 ?_
      obtain ⟨e34, K⟩ := K
      refine td_ialdc (j := (ix (x1 - 1))) kp_70 (by decide) e34 rfl dX4_isNew_34 ?_
      refine td_aload_n 0 dX4_isNew_35 rfl ?_
      refine gf_X4_9 rfl kp_69 dX4_isNew_36 ?_
      refine td_iload_n 1 dX4_isNew_39 rfl ?_
      obtain ⟨e40, K⟩ := K
      refine td_ialdc (j := (ix x1)) kp_70 (by decide) e40 rfl dX4_isNew_40 ?_
      obtain ⟨Kt, Kf⟩ := K
      refine td_icmp_le (tgt := 46) dX4_isNew_41 (by decide) (fun q => ?_) (fun q => ?_)
      · have K := Kt q
        exact K
      · have K := Kf q
        refine td_iconst (v := 0) dX4_isNew_44 (by decide) ?_
        exact td_zreturn rfl rfl dX4_isNew_45 K
set_option maxRecDepth 20000 in
theorem rX4_isNew_46 {G : td_G} {d : Nat} {Post : td_P} {x1 : Int32} {h : td_H} (K : td_J G d mX4_isNew Post 2 [(0, .ref 69), (1, .int (x1 + 1))] [] h) : td_J G d mX4_isNew Post 46 [(0, .ref 69), (1, .int x1)] [] h := by
  refine td_iinc 1 (v := x1 + 1) (lv2 := [(0, .ref 69), (1, .int (x1 + 1))]) dX4_isNew_46 rfl (congrArg (x1 + ·) (by decide)) (by decide) rfl ?_
  refine td_goto (tgt := 2) dX4_isNew_49 (by decide) ?_
  exact K
set_option maxRecDepth 20000 in
theorem rX4_deal_0 {G : td_G} {d : Nat} {Post : td_P} {k1 : Nat} {h : td_H} (hk1 : td_kd k1 = 5) (K : td_J G d mX4_deal Post 2 [(0, .ref 69), (1, .ref k1), (2, .int 0)] [] h) : td_J G d mX4_deal Post 0 [(0, .ref 69), (1, .ref k1)] [] h := by
  refine td_iconst (v := 0) dX4_deal_0 (by decide) ?_
  refine td_istore_n (lv2 := [(0, .ref 69), (1, .ref k1), (2, .int 0)]) dX4_deal_1 (by decide) rfl ?_
  exact K
set_option maxRecDepth 20000 in
theorem rX4_deal_2 {G : td_G} {d : Nat} {Post : td_P} {k1 : Nat} {x2 : Int32} {h : td_H} (hk1 : td_kd k1 = 5) (K : ((h 69 3) ≤ x2 → (Post none h)) ∧ (¬ (h 69 3) ≤ x2 → (vp_in x2 6 ∧ (vp_in x2 6 ∧ (vp_in (h 70 (ix x2)) 12 ∧ (td_J G d mX4_deal Post 2 [(0, .ref 69), (1, .ref k1), (2, .int (x2 + 1))] [] (hu h (k1 + 2) (ix (h 70 (ix x2))) (h 72 (ix x2))))))))) : td_J G d mX4_deal Post 2 [(0, .ref 69), (1, .ref k1), (2, .int x2)] [] h := by
  refine td_iload_n 2 dX4_deal_2 rfl ?_
  refine td_aload_n 0 dX4_deal_3 rfl ?_
  refine gf_X4_34 rfl kp_69 dX4_deal_4 ?_
  obtain ⟨Kt, Kf⟩ := K
  refine td_icmp_ge (tgt := 33) dX4_deal_7 (by decide) (fun q => ?_) (fun q => ?_)
  · have K := Kt q
    exact td_return rfl dX4_deal_33 K
  · have K := Kf q
    refine td_aload_n 1 dX4_deal_10 rfl ?_
    refine gf_X4_42 rfl hk1 dX4_deal_11 ?_
    refine td_aload_n 0 dX4_deal_14 rfl ?_
    refine gf_X4_9 rfl kp_69 dX4_deal_15 ?_
    refine td_iload_n 2 dX4_deal_18 rfl ?_
    obtain ⟨e19, K⟩ := K
    refine td_ialdc (j := (ix x2)) kp_70 (by decide) e19 rfl dX4_deal_19 ?_
    refine td_aload_n 0 dX4_deal_20 rfl ?_
    refine gf_X4_18 rfl kp_69 dX4_deal_21 ?_
    refine td_iload_n 2 dX4_deal_24 rfl ?_
    obtain ⟨e25, K⟩ := K
    refine td_ialdc (j := (ix x2)) kp_72 (by decide) e25 rfl dX4_deal_25 ?_
    obtain ⟨e26, K⟩ := K
    refine td_iastc (j := (ix (h 70 (ix x2)))) (kd_5_1 hk1) (by decide) e26 rfl dX4_deal_26 ?_
    refine td_iinc 2 (v := x2 + 1) (lv2 := [(0, .ref 69), (1, .ref k1), (2, .int (x2 + 1))]) dX4_deal_27 rfl (congrArg (x2 + ·) (by decide)) (by decide) rfl ?_
    refine td_goto (tgt := 2) dX4_deal_30 (by decide) ?_
    exact K
set_option maxRecDepth 20000 in
theorem rX4_weigh_0 {G : td_G} {d : Nat} {Post : td_P} {k1 k2 : Nat} {h : td_H} (hk1 : td_kd k1 = 2) (hk2 : td_kd k2 = 5) (K : td_J G d mX4_weigh Post 5 [(0, .ref 69), (1, .ref k1), (2, .ref k2)] [.int (h k2 4), .ref k1] h) : td_J G d mX4_weigh Post 0 [(0, .ref 69), (1, .ref k1), (2, .ref k2)] [] h := by
  refine td_aload_n 1 dX4_weigh_0 rfl ?_
  refine td_aload_n 2 dX4_weigh_1 rfl ?_
  refine gf_X4_37 rfl hk2 dX4_weigh_2 ?_
  exact K
set_option maxRecDepth 20000 in
theorem rX4_weigh_8 {G : td_G} {d : Nat} {Post : td_P} {k1 k2 : Nat} {s0 : Int32} {h : td_H} (hk1 : td_kd k1 = 2) (hk2 : td_kd k2 = 5) (K : (s0 ≤ (h 69 5) → td_J G d mX4_weigh Post 20 [(0, .ref 69), (1, .ref k1), (2, .ref k2), (3, .int s0)] [.ref k2, .ref k1] h) ∧ (¬ s0 ≤ (h 69 5) → (Post none h))) : td_J G d mX4_weigh Post 8 [(0, .ref 69), (1, .ref k1), (2, .ref k2)] [.int s0] h := by
  refine td_istore_n (lv2 := [(0, .ref 69), (1, .ref k1), (2, .ref k2), (3, .int s0)]) dX4_weigh_8 (by decide) rfl ?_
  refine td_iload_n 3 dX4_weigh_9 rfl ?_
  refine td_aload_n 0 dX4_weigh_10 rfl ?_
  refine gf_X4_25 rfl kp_69 dX4_weigh_11 ?_
  obtain ⟨Kt, Kf⟩ := K
  refine td_icmp_le (tgt := 18) dX4_weigh_14 (by decide) (fun q => ?_) (fun q => ?_)
  · have K := Kt q
    refine td_aload_n 1 dX4_weigh_18 rfl ?_
    refine td_aload_n 2 dX4_weigh_19 rfl ?_
    exact K
  · have K := Kf q
    exact td_return rfl dX4_weigh_17 K
set_option maxRecDepth 20000 in
theorem rX4_weigh_23 {G : td_G} {d : Nat} {Post : td_P} {k1 k2 : Nat} {x3 s0 : Int32} {h : td_H} (hk1 : td_kd k1 = 2) (hk2 : td_kd k2 = 5) (K : (x3 < (h 69 5) → td_J G d mX4_weigh Post 42 [(0, .ref 69), (1, .ref k1), (2, .ref k2), (3, .int x3), (4, .int s0)] [] h) ∧ (¬ x3 < (h 69 5) → (((h 69 6) ≤ s0 → td_J G d mX4_weigh Post 68 [(0, .ref 69), (1, .ref k1), (2, .ref k2), (3, .int x3), (4, .int s0)] [] h) ∧ (¬ (h 69 6) ≤ s0 → td_J G d mX4_weigh Post 42 [(0, .ref 69), (1, .ref k1), (2, .ref k2), (3, .int x3), (4, .int s0)] [] h)))) : td_J G d mX4_weigh Post 23 [(0, .ref 69), (1, .ref k1), (2, .ref k2), (3, .int x3)] [.int s0] h := by
  refine td_istore (lv2 := [(0, .ref 69), (1, .ref k1), (2, .ref k2), (3, .int x3), (4, .int s0)]) dX4_weigh_23 (by decide) rfl ?_
  refine td_iload_n 3 dX4_weigh_25 rfl ?_
  refine td_aload_n 0 dX4_weigh_26 rfl ?_
  refine gf_X4_25 rfl kp_69 dX4_weigh_27 ?_
  obtain ⟨Kt, Kf⟩ := K
  refine td_icmp_lt (tgt := 42) dX4_weigh_30 (by decide) (fun q => ?_) (fun q => ?_)
  · have K := Kt q
    exact K
  · have K := Kf q
    refine td_iload 4 dX4_weigh_33 rfl ?_
    refine td_aload_n 0 dX4_weigh_35 rfl ?_
    refine gf_X4_31 rfl kp_69 dX4_weigh_36 ?_
    obtain ⟨Kt, Kf⟩ := K
    refine td_icmp_ge (tgt := 68) dX4_weigh_39 (by decide) (fun q => ?_) (fun q => ?_)
    · have K := Kt q
      exact K
    · have K := Kf q
      exact K
set_option maxRecDepth 20000 in
theorem rX4_weigh_42 {G : td_G} {d : Nat} {Post : td_P} {k1 k2 : Nat} {x3 x4 : Int32} {h : td_H} (hk1 : td_kd k1 = 2) (hk2 : td_kd k2 = 5) (K : td_J G d mX4_weigh Post 65 [(0, .ref 69), (1, .ref k1), (2, .ref k2), (3, .int x3), (4, .int x4)] [.int 6, .int 0, .ref 71, .int 0, .ref 70] (hu (hu h 69 5 x3) 69 6 x4)) : td_J G d mX4_weigh Post 42 [(0, .ref 69), (1, .ref k1), (2, .ref k2), (3, .int x3), (4, .int x4)] [] h := by
  refine td_aload_n 0 dX4_weigh_42 rfl ?_
  refine td_iload_n 3 dX4_weigh_43 rfl ?_
  refine pf_X4_25 rfl kp_69 dX4_weigh_44 ?_
  refine td_aload_n 0 dX4_weigh_47 rfl ?_
  refine td_iload 4 dX4_weigh_48 rfl ?_
  refine pf_X4_31 rfl kp_69 dX4_weigh_50 ?_
  refine td_aload_n 0 dX4_weigh_53 rfl ?_
  refine gf_X4_9 rfl kp_69 dX4_weigh_54 ?_
  refine td_iconst (v := 0) dX4_weigh_57 (by decide) ?_
  refine td_aload_n 0 dX4_weigh_58 rfl ?_
  refine gf_X4_15 rfl kp_69 dX4_weigh_59 ?_
  refine td_iconst (v := 0) dX4_weigh_62 (by decide) ?_
  refine td_bipush (v := 6) dX4_weigh_63 (by decide) ?_
  exact K
set_option maxRecDepth 20000 in
theorem rX4_weigh_68 {G : td_G} {d : Nat} {Post : td_P} {k1 k2 : Nat} {x3 x4 : Int32} {h : td_H} (hk1 : td_kd k1 = 2) (hk2 : td_kd k2 = 5) (K : Post none h) : td_J G d mX4_weigh Post 68 [(0, .ref 69), (1, .ref k1), (2, .ref k2), (3, .int x3), (4, .int x4)] [] h := by
  exact td_return rfl dX4_weigh_68 K
set_option maxRecDepth 20000 in
theorem rX4_next_0 {G : td_G} {d : Nat} {Post : td_P} {h : td_H} (K : td_J G d mX4_next Post 7 [(0, .ref 69), (1, .int ((h 69 3) - 2))] [] h) : td_J G d mX4_next Post 0 [(0, .ref 69)] [] h := by
  refine td_aload_n 0 dX4_next_0 rfl ?_
  refine gf_X4_34 rfl kp_69 dX4_next_1 ?_
  refine td_iconst (v := 2) dX4_next_4 (by decide) ?_
  refine td_isub dX4_next_5 ?_
  refine td_istore_n (lv2 := [(0, .ref 69), (1, .int ((h 69 3) - 2))]) dX4_next_6 (by decide) rfl ?_
  exact K
set_option maxRecDepth 20000 in
theorem rX4_next_7 {G : td_G} {d : Nat} {Post : td_P} {x1 : Int32} {h : td_H} (K : (x1 < 0 → td_J G d mX4_next Post 34 [(0, .ref 69), (1, .int x1)] [] h) ∧ (¬ x1 < 0 → (vp_in x1 6 ∧ (vp_in (x1 + 1) 6 ∧ (((h 70 (ix x1)) ≤ (h 70 (ix (x1 + 1))) → td_J G d mX4_next Post 34 [(0, .ref 69), (1, .int x1)] [] h) ∧ (¬ (h 70 (ix x1)) ≤ (h 70 (ix (x1 + 1))) → td_J G d mX4_next Post 7 [(0, .ref 69), (1, .int (x1 + (-1)))] [] h)))))) : td_J G d mX4_next Post 7 [(0, .ref 69), (1, .int x1)] [] h := by
  refine td_iload_n 1 dX4_next_7 rfl ?_
  obtain ⟨Kt, Kf⟩ := K
  refine td_if_lt (tgt := 34) dX4_next_8 (by decide) (fun q => ?_) (fun q => ?_)
  · have K := Kt q
    exact K
  · have K := Kf q
    refine td_aload_n 0 dX4_next_11 rfl ?_
    refine gf_X4_9 rfl kp_69 dX4_next_12 ?_
    refine td_iload_n 1 dX4_next_15 rfl ?_
    obtain ⟨e16, K⟩ := K
    refine td_ialdc (j := (ix x1)) kp_70 (by decide) e16 rfl dX4_next_16 ?_
    refine td_aload_n 0 dX4_next_17 rfl ?_
    refine gf_X4_9 rfl kp_69 dX4_next_18 ?_
    refine td_iload_n 1 dX4_next_21 rfl ?_
    refine td_iconst (v := 1) dX4_next_22 (by decide) ?_
    refine td_iadd dX4_next_23 ?_
    obtain ⟨e24, K⟩ := K
    refine td_ialdc (j := (ix (x1 + 1))) kp_70 (by decide) e24 rfl dX4_next_24 ?_
    obtain ⟨Kt, Kf⟩ := K
    refine td_icmp_le (tgt := 34) dX4_next_25 (by decide) (fun q => ?_) (fun q => ?_)
    · have K := Kt q
      exact K
    · have K := Kf q
      refine td_iinc 1 (v := x1 + (-1)) (lv2 := [(0, .ref 69), (1, .int (x1 + (-1)))]) dX4_next_28 rfl (congrArg (x1 + ·) (by decide)) (by decide) rfl ?_
      refine td_goto (tgt := 7) dX4_next_31 (by decide) ?_
      exact K
set_option maxRecDepth 20000 in
theorem rX4_next_34 {G : td_G} {d : Nat} {Post : td_P} {x1 : Int32} {h : td_H} (K : (0 ≤ x1 → td_J G d mX4_next Post 47 [(0, .ref 69), (1, .int x1), (2, .int ((h 69 3) - 1))] [] h) ∧ (¬ 0 ≤ x1 → (Post (some (.int 0)) h))) : td_J G d mX4_next Post 34 [(0, .ref 69), (1, .int x1)] [] h := by
  refine td_iload_n 1 dX4_next_34 rfl ?_
  obtain ⟨Kt, Kf⟩ := K
  refine td_if_ge (tgt := 40) dX4_next_35 (by decide) (fun q => ?_) (fun q => ?_)
  · have K := Kt q
    refine td_aload_n 0 dX4_next_40 rfl ?_
    refine gf_X4_34 rfl kp_69 dX4_next_41 ?_
    refine td_iconst (v := 1) dX4_next_44 (by decide) ?_
    refine td_isub dX4_next_45 ?_
    refine td_istore_n (lv2 := [(0, .ref 69), (1, .int x1), (2, .int ((h 69 3) - 1))]) dX4_next_46 (by decide) rfl ?_
    exact K
  · have K := Kf q
    refine td_iconst (v := 0) dX4_next_38 (by decide) ?_
    exact td_zreturn rfl rfl dX4_next_39 K
set_option maxRecDepth 20000 in
theorem rX4_next_47 {G : td_G} {d : Nat} {Post : td_P} {x1 x2 : Int32} {h : td_H} (K : (x2 ≤ x1 → td_J G d mX4_next Post 73 [(0, .ref 69), (1, .int x1), (2, .int x2)] [] h) ∧ (¬ x2 ≤ x1 → (vp_in x2 6 ∧ (vp_in x1 6 ∧ (((h 70 (ix x1)) ≤ (h 70 (ix x2)) → td_J G d mX4_next Post 73 [(0, .ref 69), (1, .int x1), (2, .int x2)] [] h) ∧ (¬ (h 70 (ix x1)) ≤ (h 70 (ix x2)) → td_J G d mX4_next Post 47 [(0, .ref 69), (1, .int x1), (2, .int (x2 + (-1)))] [] h)))))) : td_J G d mX4_next Post 47 [(0, .ref 69), (1, .int x1), (2, .int x2)] [] h := by
  refine td_iload_n 2 dX4_next_47 rfl ?_
  refine td_iload_n 1 dX4_next_48 rfl ?_
  obtain ⟨Kt, Kf⟩ := K
  refine td_icmp_le (tgt := 73) dX4_next_49 (by decide) (fun q => ?_) (fun q => ?_)
  · have K := Kt q
    exact K
  · have K := Kf q
    refine td_aload_n 0 dX4_next_52 rfl ?_
    refine gf_X4_9 rfl kp_69 dX4_next_53 ?_
    refine td_iload_n 2 dX4_next_56 rfl ?_
    obtain ⟨e57, K⟩ := K
    refine td_ialdc (j := (ix x2)) kp_70 (by decide) e57 rfl dX4_next_57 ?_
    refine td_aload_n 0 dX4_next_58 rfl ?_
    refine gf_X4_9 rfl kp_69 dX4_next_59 ?_
    refine td_iload_n 1 dX4_next_62 rfl ?_
    obtain ⟨e63, K⟩ := K
    refine td_ialdc (j := (ix x1)) kp_70 (by decide) e63 rfl dX4_next_63 ?_
    obtain ⟨Kt, Kf⟩ := K
    refine td_icmp_ge (tgt := 73) dX4_next_64 (by decide) (fun q => ?_) (fun q => ?_)
    · have K := Kt q
      exact K
    · have K := Kf q
      refine td_iinc 2 (v := x2 + (-1)) (lv2 := [(0, .ref 69), (1, .int x1), (2, .int (x2 + (-1)))]) dX4_next_67 rfl (congrArg (x2 + ·) (by decide)) (by decide) rfl ?_
      refine td_goto (tgt := 47) dX4_next_70 (by decide) ?_
      exact K
set_option maxRecDepth 20000 in
theorem rX4_next_73 {G : td_G} {d : Nat} {Post : td_P} {x1 x2 : Int32} {h : td_H} (K : td_J G d mX4_next Post 76 [(0, .ref 69), (1, .int x1), (2, .int x2)] [.int x2, .int x1, .ref 69] h) : td_J G d mX4_next Post 73 [(0, .ref 69), (1, .int x1), (2, .int x2)] [] h := by
  refine td_aload_n 0 dX4_next_73 rfl ?_
  refine td_iload_n 1 dX4_next_74 rfl ?_
  refine td_iload_n 2 dX4_next_75 rfl ?_
  exact K
set_option maxRecDepth 20000 in
theorem rX4_next_79 {G : td_G} {d : Nat} {Post : td_P} {x1 x2 : Int32} {h : td_H} (K : td_J G d mX4_next Post 91 [(0, .ref 69), (1, .int x1), (2, .int x2), (3, .int (x1 + 1)), (4, .int ((h 69 3) - 1))] [] h) : td_J G d mX4_next Post 79 [(0, .ref 69), (1, .int x1), (2, .int x2)] [] h := by
  refine td_iload_n 1 dX4_next_79 rfl ?_
  refine td_iconst (v := 1) dX4_next_80 (by decide) ?_
  refine td_iadd dX4_next_81 ?_
  refine td_istore_n (lv2 := [(0, .ref 69), (1, .int x1), (2, .int x2), (3, .int (x1 + 1))]) dX4_next_82 (by decide) rfl ?_
  refine td_aload_n 0 dX4_next_83 rfl ?_
  refine gf_X4_34 rfl kp_69 dX4_next_84 ?_
  refine td_iconst (v := 1) dX4_next_87 (by decide) ?_
  refine td_isub dX4_next_88 ?_
  refine td_istore (lv2 := [(0, .ref 69), (1, .int x1), (2, .int x2), (3, .int (x1 + 1)), (4, .int ((h 69 3) - 1))]) dX4_next_89 (by decide) rfl ?_
  exact K
set_option maxRecDepth 20000 in
theorem rX4_next_91 {G : td_G} {d : Nat} {Post : td_P} {x1 x2 x3 x4 : Int32} {h : td_H} (K : (x4 ≤ x3 → (Post (some (.int 1)) h)) ∧ (¬ x4 ≤ x3 → td_J G d mX4_next Post 101 [(0, .ref 69), (1, .int x1), (2, .int x2), (3, .int x3), (4, .int x4)] [.int x4, .int x3, .ref 69] h)) : td_J G d mX4_next Post 91 [(0, .ref 69), (1, .int x1), (2, .int x2), (3, .int x3), (4, .int x4)] [] h := by
  refine td_iload_n 3 dX4_next_91 rfl ?_
  refine td_iload 4 dX4_next_92 rfl ?_
  obtain ⟨Kt, Kf⟩ := K
  refine td_icmp_ge (tgt := 113) dX4_next_94 (by decide) (fun q => ?_) (fun q => ?_)
  · have K := Kt q
    refine td_iconst (v := 1) dX4_next_113 (by decide) ?_
    exact td_zreturn rfl rfl dX4_next_114 K
  · have K := Kf q
    refine td_aload_n 0 dX4_next_97 rfl ?_
    refine td_iload_n 3 dX4_next_98 rfl ?_
    refine td_iload 4 dX4_next_99 rfl ?_
    exact K
set_option maxRecDepth 20000 in
theorem rX4_next_104 {G : td_G} {d : Nat} {Post : td_P} {x1 x2 x3 x4 : Int32} {h : td_H} (K : td_J G d mX4_next Post 91 [(0, .ref 69), (1, .int x1), (2, .int x2), (3, .int (x3 + 1)), (4, .int (x4 + (-1)))] [] h) : td_J G d mX4_next Post 104 [(0, .ref 69), (1, .int x1), (2, .int x2), (3, .int x3), (4, .int x4)] [] h := by
  refine td_iinc 3 (v := x3 + 1) (lv2 := [(0, .ref 69), (1, .int x1), (2, .int x2), (3, .int (x3 + 1)), (4, .int x4)]) dX4_next_104 rfl (congrArg (x3 + ·) (by decide)) (by decide) rfl ?_
  refine td_iinc 4 (v := x4 + (-1)) (lv2 := [(0, .ref 69), (1, .int x1), (2, .int x2), (3, .int (x3 + 1)), (4, .int (x4 + (-1)))]) dX4_next_107 rfl (congrArg (x4 + ·) (by decide)) (by decide) rfl ?_
  refine td_goto (tgt := 91) dX4_next_110 (by decide) ?_
  exact K
set_option maxRecDepth 20000 in
theorem rX4_exchange_0 {G : td_G} {d : Nat} {Post : td_P} {x1 x2 : Int32} {h : td_H} (K : vp_in x1 6 ∧ (vp_in x2 6 ∧ (vp_in x1 6 ∧ (vp_in x2 6 ∧ (Post none (hu (hu h 70 (ix x1) (h 70 (ix x2))) 70 (ix x2) (h 70 (ix x1)))))))) : td_J G d mX4_exchange Post 0 [(0, .ref 69), (1, .int x1), (2, .int x2)] [] h := by
  refine td_aload_n 0 dX4_exchange_0 rfl ?_
  refine gf_X4_9 rfl kp_69 dX4_exchange_1 ?_
  refine td_iload_n 1 dX4_exchange_4 rfl ?_
  obtain ⟨e5, K⟩ := K
  refine td_ialdc (j := (ix x1)) kp_70 (by decide) e5 rfl dX4_exchange_5 ?_
  refine td_istore_n (lv2 := [(0, .ref 69), (1, .int x1), (2, .int x2), (3, .int (h 70 (ix x1)))]) dX4_exchange_6 (by decide) rfl ?_
  refine td_aload_n 0 dX4_exchange_7 rfl ?_
  refine gf_X4_9 rfl kp_69 dX4_exchange_8 ?_
  refine td_iload_n 1 dX4_exchange_11 rfl ?_
  refine td_aload_n 0 dX4_exchange_12 rfl ?_
  refine gf_X4_9 rfl kp_69 dX4_exchange_13 ?_
  refine td_iload_n 2 dX4_exchange_16 rfl ?_
  obtain ⟨e17, K⟩ := K
  refine td_ialdc (j := (ix x2)) kp_70 (by decide) e17 rfl dX4_exchange_17 ?_
  obtain ⟨e18, K⟩ := K
  refine td_iastc (j := (ix x1)) kp_70 (by decide) e18 rfl dX4_exchange_18 ?_
  refine td_aload_n 0 dX4_exchange_19 rfl ?_
  refine gf_X4_9 rfl kp_69 dX4_exchange_20 ?_
  refine td_iload_n 2 dX4_exchange_23 rfl ?_
  refine td_iload_n 3 dX4_exchange_24 rfl ?_
  obtain ⟨e25, K⟩ := K
  refine td_iastc (j := (ix x2)) kp_70 (by decide) e25 rfl dX4_exchange_25 ?_
  exact td_return rfl dX4_exchange_26 K
set_option maxRecDepth 20000 in
theorem rX5_become_0 {G : td_G} {d : Nat} {Post : td_P} {k0 k1 : Nat} {h : td_H} (hk0 : td_kd k0 = 5) (hk1 : td_kd k1 = 5) (K : td_J G d mX5_become Post 12 [(0, .ref k0), (1, .ref k1)] [.int 9, .int 0, .ref (k0 + 1), .int 0, .ref (k1 + 1)] h) : td_J G d mX5_become Post 0 [(0, .ref k0), (1, .ref k1)] [] h := by
  refine td_aload_n 1 dX5_become_0 rfl ?_
  refine gf_X5_9 rfl hk1 dX5_become_1 ?_
  refine td_iconst (v := 0) dX5_become_4 (by decide) ?_
  refine td_aload_n 0 dX5_become_5 rfl ?_
  refine gf_X5_9 rfl hk0 dX5_become_6 ?_
  refine td_iconst (v := 0) dX5_become_9 (by decide) ?_
  refine td_bipush (v := 9) dX5_become_10 (by decide) ?_
  exact K
set_option maxRecDepth 20000 in
theorem rX5_become_15 {G : td_G} {d : Nat} {Post : td_P} {k0 k1 : Nat} {h : td_H} (hk0 : td_kd k0 = 5) (hk1 : td_kd k1 = 5) (K : td_J G d mX5_become Post 27 [(0, .ref k0), (1, .ref k1)] [.int 12, .int 0, .ref (k0 + 2), .int 0, .ref (k1 + 2)] h) : td_J G d mX5_become Post 15 [(0, .ref k0), (1, .ref k1)] [] h := by
  refine td_aload_n 1 dX5_become_15 rfl ?_
  refine gf_X5_15 rfl hk1 dX5_become_16 ?_
  refine td_iconst (v := 0) dX5_become_19 (by decide) ?_
  refine td_aload_n 0 dX5_become_20 rfl ?_
  refine gf_X5_15 rfl hk0 dX5_become_21 ?_
  refine td_iconst (v := 0) dX5_become_24 (by decide) ?_
  refine td_bipush (v := 12) dX5_become_25 (by decide) ?_
  exact K
set_option maxRecDepth 20000 in
theorem rX5_become_30 {G : td_G} {d : Nat} {Post : td_P} {k0 k1 : Nat} {h : td_H} (hk0 : td_kd k0 = 5) (hk1 : td_kd k1 = 5) (K : td_J G d mX5_become Post 42 [(0, .ref k0), (1, .ref k1)] [.int 12, .int 0, .ref (k0 + 3), .int 0, .ref (k1 + 3)] h) : td_J G d mX5_become Post 30 [(0, .ref k0), (1, .ref k1)] [] h := by
  refine td_aload_n 1 dX5_become_30 rfl ?_
  refine gf_X5_18 rfl hk1 dX5_become_31 ?_
  refine td_iconst (v := 0) dX5_become_34 (by decide) ?_
  refine td_aload_n 0 dX5_become_35 rfl ?_
  refine gf_X5_18 rfl hk0 dX5_become_36 ?_
  refine td_iconst (v := 0) dX5_become_39 (by decide) ?_
  refine td_bipush (v := 12) dX5_become_40 (by decide) ?_
  exact K
set_option maxRecDepth 20000 in
theorem rX5_become_45 {G : td_G} {d : Nat} {Post : td_P} {k0 k1 : Nat} {h : td_H} (hk0 : td_kd k0 = 5) (hk1 : td_kd k1 = 5) (K : td_J G d mX5_become Post 57 [(0, .ref k0), (1, .ref k1)] [.int 12, .int 0, .ref (k0 + 4), .int 0, .ref (k1 + 4)] h) : td_J G d mX5_become Post 45 [(0, .ref k0), (1, .ref k1)] [] h := by
  refine td_aload_n 1 dX5_become_45 rfl ?_
  refine gf_X5_21 rfl hk1 dX5_become_46 ?_
  refine td_iconst (v := 0) dX5_become_49 (by decide) ?_
  refine td_aload_n 0 dX5_become_50 rfl ?_
  refine gf_X5_21 rfl hk0 dX5_become_51 ?_
  refine td_iconst (v := 0) dX5_become_54 (by decide) ?_
  refine td_bipush (v := 12) dX5_become_55 (by decide) ?_
  exact K
set_option maxRecDepth 20000 in
theorem rX5_become_60 {G : td_G} {d : Nat} {Post : td_P} {k0 k1 : Nat} {h : td_H} (hk0 : td_kd k0 = 5) (hk1 : td_kd k1 = 5) (K : Post none (hu h k0 4 (h k1 4))) : td_J G d mX5_become Post 60 [(0, .ref k0), (1, .ref k1)] [] h := by
  refine td_aload_n 0 dX5_become_60 rfl ?_
  refine td_aload_n 1 dX5_become_61 rfl ?_
  refine gf_X5_33 rfl hk1 dX5_become_62 ?_
  refine pf_X5_33 rfl hk0 dX5_become_65 ?_
  exact td_return rfl dX5_become_68 K
set_option maxRecDepth 20000 in
theorem rX5_add_0 {G : td_G} {d : Nat} {Post : td_P} {k0 : Nat} {x1 x2 x3 : Int32} {h : td_H} (hk0 : td_kd k0 = 5) (K : (12 ≤ (h k0 4) → td_J G d mX5_add Post 49 [(0, .ref k0), (1, .int x1), (2, .int x2), (3, .int x3)] [] h) ∧ (¬ 12 ≤ (h k0 4) → (vp_in (h k0 4) 12 ∧ (vp_in ((hu h (k0 + 2) (ix (h k0 4)) x1) k0 4) 12 ∧ (vp_in ((hu (hu h (k0 + 2) (ix (h k0 4)) x1) (k0 + 3) (ix ((hu h (k0 + 2) (ix (h k0 4)) x1) k0 4)) x2) k0 4) 12 ∧ (td_J G d mX5_add Post 49 [(0, .ref k0), (1, .int x1), (2, .int x2), (3, .int x3)] [] (hu (hu (hu (hu h (k0 + 2) (ix (h k0 4)) x1) (k0 + 3) (ix ((hu h (k0 + 2) (ix (h k0 4)) x1) k0 4)) x2) (k0 + 4) (ix ((hu (hu h (k0 + 2) (ix (h k0 4)) x1) (k0 + 3) (ix ((hu h (k0 + 2) (ix (h k0 4)) x1) k0 4)) x2) k0 4)) x3) k0 4 (((hu (hu (hu h (k0 + 2) (ix (h k0 4)) x1) (k0 + 3) (ix ((hu h (k0 + 2) (ix (h k0 4)) x1) k0 4)) x2) (k0 + 4) (ix ((hu (hu h (k0 + 2) (ix (h k0 4)) x1) (k0 + 3) (ix ((hu h (k0 + 2) (ix (h k0 4)) x1) k0 4)) x2) k0 4)) x3) k0 4) + 1)))))))) : td_J G d mX5_add Post 0 [(0, .ref k0), (1, .int x1), (2, .int x2), (3, .int x3)] [] h := by
  refine td_aload_n 0 dX5_add_0 rfl ?_
  refine gf_X5_33 rfl hk0 dX5_add_1 ?_
  refine td_bipush (v := 12) dX5_add_4 (by decide) ?_
  obtain ⟨Kt, Kf⟩ := K
  refine td_icmp_ge (tgt := 49) dX5_add_6 (by decide) (fun q => ?_) (fun q => ?_)
  · have K := Kt q
    exact K
  · have K := Kf q
    refine td_aload_n 0 dX5_add_9 rfl ?_
    refine gf_X5_15 rfl hk0 dX5_add_10 ?_
    refine td_aload_n 0 dX5_add_13 rfl ?_
    refine gf_X5_33 rfl hk0 dX5_add_14 ?_
    refine td_iload_n 1 dX5_add_17 rfl ?_
    obtain ⟨e18, K⟩ := K
    refine td_iastc (j := (ix (h k0 4))) (kd_5_1 hk0) (by decide) e18 rfl dX5_add_18 ?_
    refine td_aload_n 0 dX5_add_19 rfl ?_
    refine gf_X5_18 rfl hk0 dX5_add_20 ?_
    refine td_aload_n 0 dX5_add_23 rfl ?_
    refine gf_X5_33 rfl hk0 dX5_add_24 ?_
    refine td_iload_n 2 dX5_add_27 rfl ?_
    obtain ⟨e28, K⟩ := K
    refine td_iastc (j := (ix ((hu h (k0 + 2) (ix (h k0 4)) x1) k0 4))) (kd_5_2 hk0) (by decide) e28 rfl dX5_add_28 ?_
    refine td_aload_n 0 dX5_add_29 rfl ?_
    refine gf_X5_21 rfl hk0 dX5_add_30 ?_
    refine td_aload_n 0 dX5_add_33 rfl ?_
    refine gf_X5_33 rfl hk0 dX5_add_34 ?_
    refine td_iload_n 3 dX5_add_37 rfl ?_
    obtain ⟨e38, K⟩ := K
    refine td_iastc (j := (ix ((hu (hu h (k0 + 2) (ix (h k0 4)) x1) (k0 + 3) (ix ((hu h (k0 + 2) (ix (h k0 4)) x1) k0 4)) x2) k0 4))) (kd_5_3 hk0) (by decide) e38 rfl dX5_add_38 ?_
    refine td_aload_n 0 dX5_add_39 rfl ?_
    refine td_dup dX5_add_40 rfl ?_
    refine gf_X5_33 rfl hk0 dX5_add_41 ?_
    refine td_iconst (v := 1) dX5_add_44 (by decide) ?_
    refine td_iadd dX5_add_45 ?_
    refine pf_X5_33 rfl hk0 dX5_add_46 ?_
    exact K
set_option maxRecDepth 20000 in
theorem rX5_add_49 {G : td_G} {d : Nat} {Post : td_P} {k0 : Nat} {x1 x2 x3 : Int32} {h : td_H} (hk0 : td_kd k0 = 5) (K : Post none h) : td_J G d mX5_add Post 49 [(0, .ref k0), (1, .int x1), (2, .int x2), (3, .int x3)] [] h := by
  exact td_return rfl dX5_add_49 K
set_option maxRecDepth 20000 in
theorem rX5_has_0 {G : td_G} {d : Nat} {Post : td_P} {k0 : Nat} {x1 : Int32} {h : td_H} (hk0 : td_kd k0 = 5) (K : td_J G d mX5_has Post 5 [(0, .ref k0), (1, .int x1)] [.int (h k0 4), .int x1] h) : td_J G d mX5_has Post 0 [(0, .ref k0), (1, .int x1)] [] h := by
  refine td_iload_n 1 dX5_has_0 rfl ?_
  refine td_aload_n 0 dX5_has_1 rfl ?_
  refine gf_X5_33 rfl hk0 dX5_has_2 ?_
  exact K
set_option maxRecDepth 20000 in
theorem rX5_has_8 {G : td_G} {d : Nat} {Post : td_P} {k0 : Nat} {x1 s0 : Int32} {h : td_H} (hk0 : td_kd k0 = 5) (K : (s0 = 0 ∨ s0 = 1) ∧ Post (some (.int s0)) h) : td_J G d mX5_has Post 8 [(0, .ref k0), (1, .int x1)] [.int s0] h := by
  obtain ⟨e8, K⟩ := K
  exact td_zreturn rfl (td_nb e8) dX5_has_8 K
set_option maxRecDepth 20000 in
theorem rX5_everyone_0 {G : td_G} {d : Nat} {Post : td_P} {k0 : Nat} {h : td_H} (hk0 : td_kd k0 = 5) (K : Post (some (.int ((jshl 1 (h k0 4)) - 1))) h) : td_J G d mX5_everyone Post 0 [(0, .ref k0)] [] h := by
  refine td_iconst (v := 1) dX5_everyone_0 (by decide) ?_
  refine td_aload_n 0 dX5_everyone_1 rfl ?_
  refine gf_X5_33 rfl hk0 dX5_everyone_2 ?_
  refine td_ishl dX5_everyone_5 ?_
  refine td_iconst (v := 1) dX5_everyone_6 (by decide) ?_
  refine td_isub dX5_everyone_7 ?_
  exact td_ireturn rfl dX5_everyone_8 K
set_option maxRecDepth 20000 in
theorem rX5_sizeOf_0 {G : td_G} {d : Nat} {Post : td_P} {k0 : Nat} {x1 : Int32} {h : td_H} (hk0 : td_kd k0 = 5) (K : vp_in x1 12 ∧ (vp_in (h (k0 + 4) (ix x1)) 6 ∧ (Post (some (.int ((td_st 3).getD (ix (h (k0 + 4) (ix x1))) 0))) h))) : td_J G d mX5_sizeOf Post 0 [(0, .ref k0), (1, .int x1)] [] h := by
  refine gs_X5_41 rfl dX5_sizeOf_0 ?_
  refine td_aload_n 0 dX5_sizeOf_3 rfl ?_
  refine gf_X5_21 rfl hk0 dX5_sizeOf_4 ?_
  refine td_iload_n 1 dX5_sizeOf_7 rfl ?_
  obtain ⟨e8, K⟩ := K
  refine td_ialdc (j := (ix x1)) (kd_5_3 hk0) (by decide) e8 rfl dX5_sizeOf_8 ?_
  obtain ⟨e9, K⟩ := K
  refine td_tic (t := 3) (j := (ix (h (k0 + 4) (ix x1)))) (by decide) e9 rfl dX5_sizeOf_9 ?_
  exact td_ireturn rfl dX5_sizeOf_10 K
set_option maxRecDepth 20000 in
theorem rX5_pushOf_0 {G : td_G} {d : Nat} {Post : td_P} {k0 : Nat} {x1 : Int32} {h : td_H} (hk0 : td_kd k0 = 5) (K : vp_in x1 12 ∧ (vp_in (h (k0 + 4) (ix x1)) 6 ∧ (Post (some (.int ((td_st 4).getD (ix (h (k0 + 4) (ix x1))) 0))) h))) : td_J G d mX5_pushOf Post 0 [(0, .ref k0), (1, .int x1)] [] h := by
  refine gs_X5_44 rfl dX5_pushOf_0 ?_
  refine td_aload_n 0 dX5_pushOf_3 rfl ?_
  refine gf_X5_21 rfl hk0 dX5_pushOf_4 ?_
  refine td_iload_n 1 dX5_pushOf_7 rfl ?_
  obtain ⟨e8, K⟩ := K
  refine td_ialdc (j := (ix x1)) (kd_5_3 hk0) (by decide) e8 rfl dX5_pushOf_8 ?_
  obtain ⟨e9, K⟩ := K
  refine td_tic (t := 4) (j := (ix (h (k0 + 4) (ix x1)))) (by decide) e9 rfl dX5_pushOf_9 ?_
  exact td_ireturn rfl dX5_pushOf_10 K
set_option maxRecDepth 20000 in
theorem rX5_isLaden_0 {G : td_G} {d : Nat} {Post : td_P} {k0 : Nat} {x1 : Int32} {h : td_H} (hk0 : td_kd k0 = 5) (K : vp_in x1 12 ∧ (((h (k0 + 4) (ix x1)) = 1 → td_J G d mX5_isLaden Post 20 [(0, .ref k0), (1, .int x1)] [] h) ∧ (¬ (h (k0 + 4) (ix x1)) = 1 → (vp_in x1 12 ∧ ((¬ (h (k0 + 4) (ix x1)) = 2 → td_J G d mX5_isLaden Post 25 [(0, .ref k0), (1, .int x1)] [.int 0] h) ∧ ((h (k0 + 4) (ix x1)) = 2 → td_J G d mX5_isLaden Post 20 [(0, .ref k0), (1, .int x1)] [] h)))))) : td_J G d mX5_isLaden Post 0 [(0, .ref k0), (1, .int x1)] [] h := by
  refine td_aload_n 0 dX5_isLaden_0 rfl ?_
  refine gf_X5_21 rfl hk0 dX5_isLaden_1 ?_
  refine td_iload_n 1 dX5_isLaden_4 rfl ?_
  obtain ⟨e5, K⟩ := K
  refine td_ialdc (j := (ix x1)) (kd_5_3 hk0) (by decide) e5 rfl dX5_isLaden_5 ?_
  refine td_iconst (v := 1) dX5_isLaden_6 (by decide) ?_
  obtain ⟨Kt, Kf⟩ := K
  refine td_icmp_eq (tgt := 20) dX5_isLaden_7 (by decide) (fun q => ?_) (fun q => ?_)
  · have K := Kt q
    exact K
  · have K := Kf q
    refine td_aload_n 0 dX5_isLaden_10 rfl ?_
    refine gf_X5_21 rfl hk0 dX5_isLaden_11 ?_
    refine td_iload_n 1 dX5_isLaden_14 rfl ?_
    obtain ⟨e15, K⟩ := K
    refine td_ialdc (j := (ix x1)) (kd_5_3 hk0) (by decide) e15 rfl dX5_isLaden_15 ?_
    refine td_iconst (v := 2) dX5_isLaden_16 (by decide) ?_
    obtain ⟨Kt, Kf⟩ := K
    refine td_icmp_ne (tgt := 24) dX5_isLaden_17 (by decide) (fun q => ?_) (fun q => ?_)
    · have K := Kt q
      refine td_iconst (v := 0) dX5_isLaden_24 (by decide) ?_
      exact K
    · have K := Kf q
      exact K
set_option maxRecDepth 20000 in
theorem rX5_isLaden_20 {G : td_G} {d : Nat} {Post : td_P} {k0 : Nat} {x1 : Int32} {h : td_H} (hk0 : td_kd k0 = 5) (K : td_J G d mX5_isLaden Post 25 [(0, .ref k0), (1, .int x1)] [.int 1] h) : td_J G d mX5_isLaden Post 20 [(0, .ref k0), (1, .int x1)] [] h := by
  refine td_iconst (v := 1) dX5_isLaden_20 (by decide) ?_
  refine td_goto (tgt := 25) dX5_isLaden_21 (by decide) ?_
  exact K
set_option maxRecDepth 20000 in
theorem rX5_isLaden_25 {G : td_G} {d : Nat} {Post : td_P} {k0 : Nat} {x1 s0 : Int32} {h : td_H} (hk0 : td_kd k0 = 5) (K : (s0 = 0 ∨ s0 = 1) ∧ Post (some (.int s0)) h) : td_J G d mX5_isLaden Post 25 [(0, .ref k0), (1, .int x1)] [.int s0] h := by
  obtain ⟨e25, K⟩ := K
  exact td_zreturn rfl (td_nb e25) dX5_isLaden_25 K
set_option maxRecDepth 20000 in
theorem rX5_fromStreet_0 {G : td_G} {d : Nat} {Post : td_P} {k0 : Nat} {h : td_H} (hk0 : td_kd k0 = 5) (K : td_J G d mX5_fromStreet Post 4 [(0, .ref k0), (1, .int 0), (2, .int 0)] [] h) : td_J G d mX5_fromStreet Post 0 [(0, .ref k0)] [] h := by
  refine td_iconst (v := 0) dX5_fromStreet_0 (by decide) ?_
  refine td_istore_n (lv2 := [(0, .ref k0), (1, .int 0)]) dX5_fromStreet_1 (by decide) rfl ?_
  refine td_iconst (v := 0) dX5_fromStreet_2 (by decide) ?_
  refine td_istore_n (lv2 := [(0, .ref k0), (1, .int 0), (2, .int 0)]) dX5_fromStreet_3 (by decide) rfl ?_
  exact K
set_option maxRecDepth 20000 in
theorem rX5_fromStreet_4 {G : td_G} {d : Nat} {Post : td_P} {k0 : Nat} {x1 x2 : Int32} {h : td_H} (hk0 : td_kd k0 = 5) (K : ((h k0 4) ≤ x2 → (Post (some (.int x1)) h)) ∧ (¬ (h k0 4) ≤ x2 → (vp_in x2 12 ∧ ((¬ (h (k0 + 3) (ix x2)) = 0 → td_J G d mX5_fromStreet Post 24 [(0, .ref k0), (1, .int x1), (2, .int x2)] [] h) ∧ ((h (k0 + 3) (ix x2)) = 0 → td_J G d mX5_fromStreet Post 24 [(0, .ref k0), (1, .int (x1 + 1)), (2, .int x2)] [] h))))) : td_J G d mX5_fromStreet Post 4 [(0, .ref k0), (1, .int x1), (2, .int x2)] [] h := by
  refine td_iload_n 2 dX5_fromStreet_4 rfl ?_
  refine td_aload_n 0 dX5_fromStreet_5 rfl ?_
  refine gf_X5_33 rfl hk0 dX5_fromStreet_6 ?_
  obtain ⟨Kt, Kf⟩ := K
  refine td_icmp_ge (tgt := 30) dX5_fromStreet_9 (by decide) (fun q => ?_) (fun q => ?_)
  · have K := Kt q
    refine td_iload_n 1 dX5_fromStreet_30 rfl ?_
    exact td_ireturn rfl dX5_fromStreet_31 K
  · have K := Kf q
    refine td_aload_n 0 dX5_fromStreet_12 rfl ?_
    refine gf_X5_18 rfl hk0 dX5_fromStreet_13 ?_
    refine td_iload_n 2 dX5_fromStreet_16 rfl ?_
    obtain ⟨e17, K⟩ := K
    refine td_ialdc (j := (ix x2)) (kd_5_2 hk0) (by decide) e17 rfl dX5_fromStreet_17 ?_
    obtain ⟨Kt, Kf⟩ := K
    refine td_if_ne (tgt := 24) dX5_fromStreet_18 (by decide) (fun q => ?_) (fun q => ?_)
    · have K := Kt q
      exact K
    · have K := Kf q
      refine td_iinc 1 (v := x1 + 1) (lv2 := [(0, .ref k0), (1, .int (x1 + 1)), (2, .int x2)]) dX5_fromStreet_21 rfl (congrArg (x1 + ·) (by decide)) (by decide) rfl ?_
      exact K
set_option maxRecDepth 20000 in
theorem rX5_fromStreet_24 {G : td_G} {d : Nat} {Post : td_P} {k0 : Nat} {x1 x2 : Int32} {h : td_H} (hk0 : td_kd k0 = 5) (K : td_J G d mX5_fromStreet Post 4 [(0, .ref k0), (1, .int x1), (2, .int (x2 + 1))] [] h) : td_J G d mX5_fromStreet Post 24 [(0, .ref k0), (1, .int x1), (2, .int x2)] [] h := by
  refine td_iinc 2 (v := x2 + 1) (lv2 := [(0, .ref k0), (1, .int x1), (2, .int (x2 + 1))]) dX5_fromStreet_24 rfl (congrArg (x2 + ·) (by decide)) (by decide) rfl ?_
  refine td_goto (tgt := 4) dX5_fromStreet_27 (by decide) ?_
  exact K
set_option maxRecDepth 20000 in
theorem rX6_isThere_0 {G : td_G} {d : Nat} {Post : td_P} {k0 : Nat} {h : td_H} (hk0 : td_kd k0 = 6) (K : ((h k0 1) = (-1) → td_J G d mX6_isThere Post 13 [(0, .ref k0)] [.int 0] h) ∧ (¬ (h k0 1) = (-1) → td_J G d mX6_isThere Post 13 [(0, .ref k0)] [.int 1] h)) : td_J G d mX6_isThere Post 0 [(0, .ref k0)] [] h := by
  refine td_aload_n 0 dX6_isThere_0 rfl ?_
  refine gf_X6_15 rfl hk0 dX6_isThere_1 ?_
  refine td_iconst (v := (-1)) dX6_isThere_4 (by decide) ?_
  obtain ⟨Kt, Kf⟩ := K
  refine td_icmp_eq (tgt := 12) dX6_isThere_5 (by decide) (fun q => ?_) (fun q => ?_)
  · have K := Kt q
    refine td_iconst (v := 0) dX6_isThere_12 (by decide) ?_
    exact K
  · have K := Kf q
    refine td_iconst (v := 1) dX6_isThere_8 (by decide) ?_
    refine td_goto (tgt := 13) dX6_isThere_9 (by decide) ?_
    exact K
set_option maxRecDepth 20000 in
theorem rX6_isThere_13 {G : td_G} {d : Nat} {Post : td_P} {k0 : Nat} {s0 : Int32} {h : td_H} (hk0 : td_kd k0 = 6) (K : (s0 = 0 ∨ s0 = 1) ∧ Post (some (.int s0)) h) : td_J G d mX6_isThere Post 13 [(0, .ref k0)] [.int s0] h := by
  obtain ⟨e13, K⟩ := K
  exact td_zreturn rfl (td_nb e13) dX6_isThere_13 K
set_option maxRecDepth 20000 in
theorem rX6_renew_0 {G : td_G} {d : Nat} {Post : td_P} {k0 : Nat} {x1 x2 : Int32} {h : td_H} (hk0 : td_kd k0 = 6) (K : td_J G d mX6_renew Post 12 [(0, .ref k0), (1, .int x1), (2, .int x2), (3, .int 0)] [] (hu (hu h k0 1 x1) k0 2 x2)) : td_J G d mX6_renew Post 0 [(0, .ref k0), (1, .int x1), (2, .int x2)] [] h := by
  refine td_aload_n 0 dX6_renew_0 rfl ?_
  refine td_iload_n 1 dX6_renew_1 rfl ?_
  refine pf_X6_15 rfl hk0 dX6_renew_2 ?_
  refine td_aload_n 0 dX6_renew_5 rfl ?_
  refine td_iload_n 2 dX6_renew_6 rfl ?_
  refine pf_X6_19 rfl hk0 dX6_renew_7 ?_
  refine td_iconst (v := 0) dX6_renew_10 (by decide) ?_
  refine td_istore_n (lv2 := [(0, .ref k0), (1, .int x1), (2, .int x2), (3, .int 0)]) dX6_renew_11 (by decide) rfl ?_
  exact K
set_option maxRecDepth 20000 in
theorem rX6_renew_12 {G : td_G} {d : Nat} {Post : td_P} {k0 : Nat} {x1 x2 x3 : Int32} {h : td_H} (hk0 : td_kd k0 = 6) (K : (16 ≤ x3 → (Post none h)) ∧ (¬ 16 ≤ x3 → (vp_in x3 16 ∧ (td_J G d mX6_renew Post 12 [(0, .ref k0), (1, .int x1), (2, .int x2), (3, .int (x3 + 1))] [] (hu h (k0 + 1) (ix x3) 0))))) : td_J G d mX6_renew Post 12 [(0, .ref k0), (1, .int x1), (2, .int x2), (3, .int x3)] [] h := by
  refine td_iload_n 3 dX6_renew_12 rfl ?_
  refine td_bipush (v := 16) dX6_renew_13 (by decide) ?_
  obtain ⟨Kt, Kf⟩ := K
  refine td_icmp_ge (tgt := 31) dX6_renew_15 (by decide) (fun q => ?_) (fun q => ?_)
  · have K := Kt q
    exact td_return rfl dX6_renew_31 K
  · have K := Kf q
    refine td_aload_n 0 dX6_renew_18 rfl ?_
    refine gf_X6_9 rfl hk0 dX6_renew_19 ?_
    refine td_iload_n 3 dX6_renew_22 rfl ?_
    refine td_iconst (v := 0) dX6_renew_23 (by decide) ?_
    obtain ⟨e24, K⟩ := K
    refine td_iastc (j := (ix x3)) (kd_6_0 hk0) (by decide) e24 rfl dX6_renew_24 ?_
    refine td_iinc 3 (v := x3 + 1) (lv2 := [(0, .ref k0), (1, .int x1), (2, .int x2), (3, .int (x3 + 1))]) dX6_renew_25 rfl (congrArg (x3 + ·) (by decide)) (by decide) rfl ?_
    refine td_goto (tgt := 12) dX6_renew_28 (by decide) ?_
    exact K
set_option maxRecDepth 20000 in
theorem rX6_leave_0 {G : td_G} {d : Nat} {Post : td_P} {k0 : Nat} {h : td_H} (hk0 : td_kd k0 = 6) (K : Post (some (.int ((hu h k0 1 (-1)) k0 2))) (hu h k0 1 (-1))) : td_J G d mX6_leave Post 0 [(0, .ref k0)] [] h := by
  refine td_aload_n 0 dX6_leave_0 rfl ?_
  refine td_iconst (v := (-1)) dX6_leave_1 (by decide) ?_
  refine pf_X6_15 rfl hk0 dX6_leave_2 ?_
  refine td_aload_n 0 dX6_leave_5 rfl ?_
  refine gf_X6_19 rfl hk0 dX6_leave_6 ?_
  exact td_ireturn rfl dX6_leave_9 K
set_option maxRecDepth 20000 in
theorem rX6_refusalFor_0 {G : td_G} {d : Nat} {Post : td_P} {k0 : Nat} {x1 x2 x3 : Int32} {h : td_H} (hk0 : td_kd k0 = 6) (K : td_J G d mX6_refusalFor Post 1 [(0, .ref k0), (1, .int x1), (2, .int x2), (3, .int x3)] [.ref k0] h) : td_J G d mX6_refusalFor Post 0 [(0, .ref k0), (1, .int x1), (2, .int x2), (3, .int x3)] [] h := by
  refine td_aload_n 0 dX6_refusalFor_0 rfl ?_
  exact K
set_option maxRecDepth 20000 in
theorem rX6_refusalFor_4 {G : td_G} {d : Nat} {Post : td_P} {k0 : Nat} {x1 x2 x3 s0 : Int32} {h : td_H} (hk0 : td_kd k0 = 6) (K : (¬ s0 = 0 → (((h k0 1) = x1 → ((x2 < 0 → td_J G d mX6_refusalFor Post 35 [(0, .ref k0), (1, .int x1), (2, .int x2), (3, .int x3)] [] h) ∧ (¬ x2 < 0 → ((x2 ≤ ((h k0 2) - x3) → td_J G d mX6_refusalFor Post 41 [(0, .ref k0), (1, .int x1), (2, .int x2), (3, .int x3)] [.int 0] h) ∧ (¬ x2 ≤ ((h k0 2) - x3) → td_J G d mX6_refusalFor Post 35 [(0, .ref k0), (1, .int x1), (2, .int x2), (3, .int x3)] [] h))))) ∧ (¬ (h k0 1) = x1 → (Post (some (.int (-12))) h)))) ∧ (s0 = 0 → (Post (some (.int (-11))) h))) : td_J G d mX6_refusalFor Post 4 [(0, .ref k0), (1, .int x1), (2, .int x2), (3, .int x3)] [.int s0] h := by
  obtain ⟨Kt, Kf⟩ := K
  refine td_if_ne (tgt := 10) dX6_refusalFor_4 (by decide) (fun q => ?_) (fun q => ?_)
  · have K := Kt q
    refine td_aload_n 0 dX6_refusalFor_10 rfl ?_
    refine gf_X6_15 rfl hk0 dX6_refusalFor_11 ?_
    refine td_iload_n 1 dX6_refusalFor_14 rfl ?_
    obtain ⟨Kt, Kf⟩ := K
    refine td_icmp_eq (tgt := 21) dX6_refusalFor_15 (by decide) (fun q => ?_) (fun q => ?_)
    · have K := Kt q
      refine td_iload_n 2 dX6_refusalFor_21 rfl ?_
      obtain ⟨Kt, Kf⟩ := K
      refine td_if_lt (tgt := 35) dX6_refusalFor_22 (by decide) (fun q => ?_) (fun q => ?_)
      · have K := Kt q
        exact K
      · have K := Kf q
        refine td_iload_n 2 dX6_refusalFor_25 rfl ?_
        refine td_aload_n 0 dX6_refusalFor_26 rfl ?_
        refine gf_X6_19 rfl hk0 dX6_refusalFor_27 ?_
        refine td_iload_n 3 dX6_refusalFor_30 rfl ?_
        refine td_isub dX6_refusalFor_31 ?_
        obtain ⟨Kt, Kf⟩ := K
        refine td_icmp_le (tgt := 40) dX6_refusalFor_32 (by decide) (fun q => ?_) (fun q => ?_)
        · have K := Kt q
          refine td_iconst (v := 0) dX6_refusalFor_40 (by decide) ?_
          exact K
        · have K := Kf q
          exact K
    · have K := Kf q
      refine td_bipush (v := (-12)) dX6_refusalFor_18 (by decide) ?_
      exact td_ireturn rfl dX6_refusalFor_20 K
  · have K := Kf q
    refine td_bipush (v := (-11)) dX6_refusalFor_7 (by decide) ?_
    exact td_ireturn rfl dX6_refusalFor_9 K
set_option maxRecDepth 20000 in
theorem rX6_refusalFor_35 {G : td_G} {d : Nat} {Post : td_P} {k0 : Nat} {x1 x2 x3 : Int32} {h : td_H} (hk0 : td_kd k0 = 6) (K : td_J G d mX6_refusalFor Post 41 [(0, .ref k0), (1, .int x1), (2, .int x2), (3, .int x3)] [.int (-13)] h) : td_J G d mX6_refusalFor Post 35 [(0, .ref k0), (1, .int x1), (2, .int x2), (3, .int x3)] [] h := by
  refine td_bipush (v := (-13)) dX6_refusalFor_35 (by decide) ?_
  refine td_goto (tgt := 41) dX6_refusalFor_37 (by decide) ?_
  exact K
set_option maxRecDepth 20000 in
theorem rX6_refusalFor_41 {G : td_G} {d : Nat} {Post : td_P} {k0 : Nat} {x1 x2 x3 s0 : Int32} {h : td_H} (hk0 : td_kd k0 = 6) (K : Post (some (.int s0)) h) : td_J G d mX6_refusalFor Post 41 [(0, .ref k0), (1, .int x1), (2, .int x2), (3, .int x3)] [.int s0] h := by
  exact td_ireturn rfl dX6_refusalFor_41 K
set_option maxRecDepth 20000 in
theorem rX6_get_0 {G : td_G} {d : Nat} {Post : td_P} {k0 : Nat} {x1 : Int32} {h : td_H} (hk0 : td_kd k0 = 6) (K : td_J G d mX6_get Post 5 [(0, .ref k0), (1, .int x1)] [.int (h k0 2), .int x1] h) : td_J G d mX6_get Post 0 [(0, .ref k0), (1, .int x1)] [] h := by
  refine td_iload_n 1 dX6_get_0 rfl ?_
  refine td_aload_n 0 dX6_get_1 rfl ?_
  refine gf_X6_19 rfl hk0 dX6_get_2 ?_
  exact K
set_option maxRecDepth 20000 in
theorem rX6_get_8 {G : td_G} {d : Nat} {Post : td_P} {k0 : Nat} {x1 s0 : Int32} {h : td_H} (hk0 : td_kd k0 = 6) (K : (s0 = 0 → td_J G d mX6_get Post 21 [(0, .ref k0), (1, .int x1)] [.int 0] h) ∧ (¬ s0 = 0 → (vp_in x1 16 ∧ (td_J G d mX6_get Post 21 [(0, .ref k0), (1, .int x1)] [.int (h (k0 + 1) (ix x1))] h)))) : td_J G d mX6_get Post 8 [(0, .ref k0), (1, .int x1)] [.int s0] h := by
  obtain ⟨Kt, Kf⟩ := K
  refine td_if_eq (tgt := 20) dX6_get_8 (by decide) (fun q => ?_) (fun q => ?_)
  · have K := Kt q
    refine td_iconst (v := 0) dX6_get_20 (by decide) ?_
    exact K
  · have K := Kf q
    refine td_aload_n 0 dX6_get_11 rfl ?_
    refine gf_X6_9 rfl hk0 dX6_get_12 ?_
    refine td_iload_n 1 dX6_get_15 rfl ?_
    obtain ⟨e16, K⟩ := K
    refine td_ialdc (j := (ix x1)) (kd_6_0 hk0) (by decide) e16 rfl dX6_get_16 ?_
    refine td_goto (tgt := 21) dX6_get_17 (by decide) ?_
    exact K
set_option maxRecDepth 20000 in
theorem rX6_get_21 {G : td_G} {d : Nat} {Post : td_P} {k0 : Nat} {x1 s0 : Int32} {h : td_H} (hk0 : td_kd k0 = 6) (K : Post (some (.int s0)) h) : td_J G d mX6_get Post 21 [(0, .ref k0), (1, .int x1)] [.int s0] h := by
  exact td_ireturn rfl dX6_get_21 K
set_option maxRecDepth 20000 in
theorem rX6_put_0 {G : td_G} {d : Nat} {Post : td_P} {k0 : Nat} {x1 x2 : Int32} {h : td_H} (hk0 : td_kd k0 = 6) (K : td_J G d mX6_put Post 5 [(0, .ref k0), (1, .int x1), (2, .int x2)] [.int (h k0 2), .int x1] h) : td_J G d mX6_put Post 0 [(0, .ref k0), (1, .int x1), (2, .int x2)] [] h := by
  refine td_iload_n 1 dX6_put_0 rfl ?_
  refine td_aload_n 0 dX6_put_1 rfl ?_
  refine gf_X6_19 rfl hk0 dX6_put_2 ?_
  exact K
set_option maxRecDepth 20000 in
theorem rX6_put_8 {G : td_G} {d : Nat} {Post : td_P} {k0 : Nat} {x1 x2 s0 : Int32} {h : td_H} (hk0 : td_kd k0 = 6) (K : (s0 = 0 → td_J G d mX6_put Post 43 [(0, .ref k0), (1, .int x1), (2, .int x2)] [] h) ∧ (¬ s0 = 0 → ((¬ (h k0 1) = 0 → ((¬ (h k0 1) = 1 → td_J G d mX6_put Post 42 [(0, .ref k0), (1, .int x1), (2, .int x2)] [.int x2, .int x1, .ref (k0 + 1)] h) ∧ ((h k0 1) = 1 → td_J G d mX6_put Post 42 [(0, .ref k0), (1, .int x1), (2, .int x2)] [.int x2.toInt16.toInt32, .int x1, .ref (k0 + 1)] h))) ∧ ((h k0 1) = 0 → td_J G d mX6_put Post 42 [(0, .ref k0), (1, .int x1), (2, .int x2)] [.int x2.toInt8.toInt32, .int x1, .ref (k0 + 1)] h)))) : td_J G d mX6_put Post 8 [(0, .ref k0), (1, .int x1), (2, .int x2)] [.int s0] h := by
  obtain ⟨Kt, Kf⟩ := K
  refine td_if_eq (tgt := 43) dX6_put_8 (by decide) (fun q => ?_) (fun q => ?_)
  · have K := Kt q
    exact K
  · have K := Kf q
    refine td_aload_n 0 dX6_put_11 rfl ?_
    refine gf_X6_9 rfl hk0 dX6_put_12 ?_
    refine td_iload_n 1 dX6_put_15 rfl ?_
    refine td_aload_n 0 dX6_put_16 rfl ?_
    refine gf_X6_15 rfl hk0 dX6_put_17 ?_
    obtain ⟨Kt, Kf⟩ := K
    refine td_if_ne (tgt := 28) dX6_put_20 (by decide) (fun q => ?_) (fun q => ?_)
    · have K := Kt q
      refine td_aload_n 0 dX6_put_28 rfl ?_
      refine gf_X6_15 rfl hk0 dX6_put_29 ?_
      refine td_iconst (v := 1) dX6_put_32 (by decide) ?_
      obtain ⟨Kt, Kf⟩ := K
      refine td_icmp_ne (tgt := 41) dX6_put_33 (by decide) (fun q => ?_) (fun q => ?_)
      · have K := Kt q
        refine td_iload_n 2 dX6_put_41 rfl ?_
        exact K
      · have K := Kf q
        refine td_iload_n 2 dX6_put_36 rfl ?_
        refine td_i2s dX6_put_37 ?_
        refine td_goto (tgt := 42) dX6_put_38 (by decide) ?_
        exact K
    · have K := Kf q
      refine td_iload_n 2 dX6_put_23 rfl ?_
      refine td_i2b dX6_put_24 ?_
      refine td_goto (tgt := 42) dX6_put_25 (by decide) ?_
      exact K
set_option maxRecDepth 20000 in
theorem rX6_put_42 {G : td_G} {d : Nat} {Post : td_P} {k0 a0 na0 : Nat} {x1 x2 s1 s2 : Int32} {h : td_H} (hk0 : td_kd k0 = 6) (ha0 : td_kd a0 = 100 + na0) (ga0 : na0 ≠ 899) (K : vp_in s1 na0 ∧ (td_J G d mX6_put Post 43 [(0, .ref k0), (1, .int x1), (2, .int x2)] [] (hu h a0 (ix s1) s2))) : td_J G d mX6_put Post 42 [(0, .ref k0), (1, .int x1), (2, .int x2)] [.int s2, .int s1, .ref a0] h := by
  obtain ⟨e42, K⟩ := K
  refine td_iastc (j := (ix s1)) ha0 ga0 e42 rfl dX6_put_42 ?_
  exact K
set_option maxRecDepth 20000 in
theorem rX6_put_43 {G : td_G} {d : Nat} {Post : td_P} {k0 : Nat} {x1 x2 : Int32} {h : td_H} (hk0 : td_kd k0 = 6) (K : Post none h) : td_J G d mX6_put Post 43 [(0, .ref k0), (1, .int x1), (2, .int x2)] [] h := by
  exact td_return rfl dX6_put_43 K
set_option maxRecDepth 20000 in
theorem rX7_byteOf_0 {G : td_G} {d : Nat} {Post : td_P} {x2 : Int32} {w0 : Int64} {h : td_H} (K : Post (some (.int (((jlshr w0 (8 * x2)).toInt32) &&& 255))) h) : td_J G d mX7_byteOf Post 0 [(0, .long w0), (2, .int x2)] [] h := by
  refine td_lload_n 0 dX7_byteOf_0 rfl ?_
  refine td_bipush (v := 8) dX7_byteOf_1 (by decide) ?_
  refine td_iload_n 1 dX7_byteOf_3 rfl ?_
  refine td_imul dX7_byteOf_4 ?_
  refine td_lshr dX7_byteOf_5 ?_
  refine td_l2i dX7_byteOf_6 ?_
  refine td_sipush (v := 255) dX7_byteOf_7 (by decide) ?_
  refine td_iand dX7_byteOf_10 ?_
  exact td_ireturn rfl dX7_byteOf_11 K
set_option maxRecDepth 20000 in
theorem rX7_isPlain_0 {G : td_G} {d : Nat} {Post : td_P} {x2 : Int32} {w0 : Int64} {h : td_H} (K : td_J G d mX7_isPlain Post 2 [(0, .long w0), (2, .int x2), (3, .int 0)] [] h) : td_J G d mX7_isPlain Post 0 [(0, .long w0), (2, .int x2)] [] h := by
  refine td_iconst (v := 0) dX7_isPlain_0 (by decide) ?_
  refine td_istore_n (lv2 := [(0, .long w0), (2, .int x2), (3, .int 0)]) dX7_isPlain_1 (by decide) rfl ?_
  exact K
set_option maxRecDepth 20000 in
theorem rX7_isPlain_2 {G : td_G} {d : Nat} {Post : td_P} {x2 x3 : Int32} {w0 : Int64} {h : td_H} (K : (x2 ≤ x3 → (Post (some (.int 1)) h)) ∧ (¬ x2 ≤ x3 → td_J G d mX7_isPlain Post 9 [(0, .long w0), (2, .int x2), (3, .int x3)] [.int x3, .long w0] h)) : td_J G d mX7_isPlain Post 2 [(0, .long w0), (2, .int x2), (3, .int x3)] [] h := by
  refine td_iload_n 2 dX7_isPlain_2 rfl ?_
  refine td_iload_n 1 dX7_isPlain_3 rfl ?_
  obtain ⟨Kt, Kf⟩ := K
  refine td_icmp_ge (tgt := 36) dX7_isPlain_4 (by decide) (fun q => ?_) (fun q => ?_)
  · have K := Kt q
    refine td_iconst (v := 1) dX7_isPlain_36 (by decide) ?_
    exact td_zreturn rfl rfl dX7_isPlain_37 K
  · have K := Kf q
    refine td_lload_n 0 dX7_isPlain_7 rfl ?_
    refine td_iload_n 2 dX7_isPlain_8 rfl ?_
    exact K
set_option maxRecDepth 20000 in
theorem rX7_isPlain_12 {G : td_G} {d : Nat} {Post : td_P} {x2 x3 s0 : Int32} {w0 : Int64} {h : td_H} (K : (s0 < 32 → td_J G d mX7_isPlain Post 28 [(0, .long w0), (2, .int x2), (3, .int x3), (4, .int s0)] [] h) ∧ (¬ s0 < 32 → ((s0 ≤ 126 → td_J G d mX7_isPlain Post 2 [(0, .long w0), (2, .int x2), (3, .int (x3 + 1))] [] h) ∧ (¬ s0 ≤ 126 → td_J G d mX7_isPlain Post 28 [(0, .long w0), (2, .int x2), (3, .int x3), (4, .int s0)] [] h)))) : td_J G d mX7_isPlain Post 12 [(0, .long w0), (2, .int x2), (3, .int x3)] [.int s0] h := by
  refine td_istore (lv2 := [(0, .long w0), (2, .int x2), (3, .int x3), (4, .int s0)]) dX7_isPlain_12 (by decide) rfl ?_
  refine td_iload 3 dX7_isPlain_14 rfl ?_
  refine td_bipush (v := 32) dX7_isPlain_16 (by decide) ?_
  obtain ⟨Kt, Kf⟩ := K
  refine td_icmp_lt (tgt := 28) dX7_isPlain_18 (by decide) (fun q => ?_) (fun q => ?_)
  · have K := Kt q
    exact K
  · have K := Kf q
    refine td_iload 3 dX7_isPlain_21 rfl ?_
    refine td_bipush (v := 126) dX7_isPlain_23 (by decide) ?_
    obtain ⟨Kt, Kf⟩ := K
    refine td_icmp_le (tgt := 30) dX7_isPlain_25 (by decide) (fun q => ?_) (fun q => ?_)
    · have K := Kt q
      refine td_iinc 2 (v := x3 + 1) (lv2 := [(0, .long w0), (2, .int x2), (3, .int (x3 + 1)), (4, .int s0)]) dX7_isPlain_30 rfl (congrArg (x3 + ·) (by decide)) (by decide) rfl ?_
      refine td_goto (tgt := 2) dX7_isPlain_33 (by decide) ?_
      refine td_drop [0, 1, 2] rfl ?_
      exact K
    · have K := Kf q
      exact K
set_option maxRecDepth 20000 in
theorem rX7_isPlain_28 {G : td_G} {d : Nat} {Post : td_P} {x2 x3 x4 : Int32} {w0 : Int64} {h : td_H} (K : Post (some (.int 0)) h) : td_J G d mX7_isPlain Post 28 [(0, .long w0), (2, .int x2), (3, .int x3), (4, .int x4)] [] h := by
  refine td_iconst (v := 0) dX7_isPlain_28 (by decide) ?_
  exact td_zreturn rfl rfl dX7_isPlain_29 K
set_option maxRecDepth 20000 in
theorem rX7_append_0 {G : td_G} {d : Nat} {Post : td_P} {x3 : Int32} {w1 : Int64} {h : td_H} (K : td_J G d mX7_append Post 5 [(0, .ref 11), (1, .long w1), (3, .int x3), (4, .int (x3 - 1))] [] h) : td_J G d mX7_append Post 0 [(0, .ref 11), (1, .long w1), (3, .int x3)] [] h := by
  refine td_iload_n 2 dX7_append_0 rfl ?_
  refine td_iconst (v := 1) dX7_append_1 (by decide) ?_
  refine td_isub dX7_append_2 ?_
  refine td_istore (lv2 := [(0, .ref 11), (1, .long w1), (3, .int x3), (4, .int (x3 - 1))]) dX7_append_3 (by decide) rfl ?_
  exact K
set_option maxRecDepth 20000 in
theorem rX7_append_5 {G : td_G} {d : Nat} {Post : td_P} {x3 x4 : Int32} {w1 : Int64} {h : td_H} (K : (x4 < 0 → td_J G d mX7_append Post 50 [(0, .ref 11), (1, .long w1), (3, .int x3), (4, .int x4)] [] h) ∧ (¬ x4 < 0 → ((80 ≤ (h 11 4) → td_J G d mX7_append Post 50 [(0, .ref 11), (1, .long w1), (3, .int x3), (4, .int x4)] [] h) ∧ (¬ 80 ≤ (h 11 4) → td_J G d mX7_append Post 30 [(0, .ref 11), (1, .long w1), (3, .int x3), (4, .int x4)] [.int x4, .long w1, .int (h 11 4), .ref 12] h)))) : td_J G d mX7_append Post 5 [(0, .ref 11), (1, .long w1), (3, .int x3), (4, .int x4)] [] h := by
  refine td_iload 3 dX7_append_5 rfl ?_
  obtain ⟨Kt, Kf⟩ := K
  refine td_if_lt (tgt := 50) dX7_append_7 (by decide) (fun q => ?_) (fun q => ?_)
  · have K := Kt q
    exact K
  · have K := Kf q
    refine td_aload_n 0 dX7_append_10 rfl ?_
    refine gf_X7_28 rfl kp_11 dX7_append_11 ?_
    refine td_bipush (v := 80) dX7_append_14 (by decide) ?_
    obtain ⟨Kt, Kf⟩ := K
    refine td_icmp_ge (tgt := 50) dX7_append_16 (by decide) (fun q => ?_) (fun q => ?_)
    · have K := Kt q
      exact K
    · have K := Kf q
      refine td_aload_n 0 dX7_append_19 rfl ?_
      refine gf_X7_9 rfl kp_11 dX7_append_20 ?_
      refine td_aload_n 0 dX7_append_23 rfl ?_
      refine gf_X7_28 rfl kp_11 dX7_append_24 ?_
      refine td_lload_n 1 dX7_append_27 rfl ?_
      refine td_iload 3 dX7_append_28 rfl ?_
      exact K
set_option maxRecDepth 20000 in
theorem rX7_append_33 {G : td_G} {d : Nat} {Post : td_P} {a0 na0 : Nat} {x3 x4 s1 s2 : Int32} {w1 : Int64} {h : td_H} (ha0 : td_kd a0 = 100 + na0) (ga0 : na0 ≠ 899) (K : vp_in s1 na0 ∧ (td_J G d mX7_append Post 5 [(0, .ref 11), (1, .long w1), (3, .int x3), (4, .int (x4 + (-1)))] [] (hu (hu h a0 (ix s1) s2) 11 4 (((hu h a0 (ix s1) s2) 11 4) + 1)))) : td_J G d mX7_append Post 33 [(0, .ref 11), (1, .long w1), (3, .int x3), (4, .int x4)] [.int s2, .int s1, .ref a0] h := by
  obtain ⟨e33, K⟩ := K
  refine td_iastc (j := (ix s1)) ha0 ga0 e33 rfl dX7_append_33 ?_
  refine td_aload_n 0 dX7_append_34 rfl ?_
  refine td_dup dX7_append_35 rfl ?_
  refine gf_X7_28 rfl kp_11 dX7_append_36 ?_
  refine td_iconst (v := 1) dX7_append_39 (by decide) ?_
  refine td_iadd dX7_append_40 ?_
  refine pf_X7_28 rfl kp_11 dX7_append_41 ?_
  refine td_iinc 3 (v := x4 + (-1)) (lv2 := [(0, .ref 11), (1, .long w1), (3, .int x3), (4, .int (x4 + (-1)))]) dX7_append_44 rfl (congrArg (x4 + ·) (by decide)) (by decide) rfl ?_
  refine td_goto (tgt := 5) dX7_append_47 (by decide) ?_
  exact K
set_option maxRecDepth 20000 in
theorem rX7_append_50 {G : td_G} {d : Nat} {Post : td_P} {x3 x4 : Int32} {w1 : Int64} {h : td_H} (K : Post none h) : td_J G d mX7_append Post 50 [(0, .ref 11), (1, .long w1), (3, .int x3), (4, .int x4)] [] h := by
  exact td_return rfl dX7_append_50 K
set_option maxRecDepth 20000 in
theorem rX7_read_0 {G : td_G} {d : Nat} {Post : td_P} {h : td_H} (K : td_J G d mX7_read Post 12 [(0, .ref 11), (1, .int 0)] [] (hu (hu h 11 6 0) 11 5 0)) : td_J G d mX7_read Post 0 [(0, .ref 11)] [] h := by
  refine td_aload_n 0 dX7_read_0 rfl ?_
  refine td_iconst (v := 0) dX7_read_1 (by decide) ?_
  refine pf_X7_32 rfl kp_11 dX7_read_2 ?_
  refine td_aload_n 0 dX7_read_5 rfl ?_
  refine td_iconst (v := 0) dX7_read_6 (by decide) ?_
  refine pf_X7_35 rfl kp_11 dX7_read_7 ?_
  refine td_iconst (v := 0) dX7_read_10 (by decide) ?_
  refine td_istore_n (lv2 := [(0, .ref 11), (1, .int 0)]) dX7_read_11 (by decide) rfl ?_
  exact K
set_option maxRecDepth 20000 in
theorem rX7_read_12 {G : td_G} {d : Nat} {Post : td_P} {x1 : Int32} {h : td_H} (K : (8 ≤ x1 → td_J G d mX7_read Post 116 [(0, .ref 11), (1, .int x1)] [.ref 11] h) ∧ (¬ 8 ≤ x1 → td_J G d mX7_read Post 19 [(0, .ref 11), (1, .int x1)] [.ref 11] h)) : td_J G d mX7_read Post 12 [(0, .ref 11), (1, .int x1)] [] h := by
  refine td_iload_n 1 dX7_read_12 rfl ?_
  refine td_bipush (v := 8) dX7_read_13 (by decide) ?_
  obtain ⟨Kt, Kf⟩ := K
  refine td_icmp_ge (tgt := 115) dX7_read_15 (by decide) (fun q => ?_) (fun q => ?_)
  · have K := Kt q
    refine td_aload_n 0 dX7_read_115 rfl ?_
    exact K
  · have K := Kf q
    refine td_aload_n 0 dX7_read_18 rfl ?_
    exact K
set_option maxRecDepth 20000 in
theorem rX7_read_22 {G : td_G} {d : Nat} {Post : td_P} {x1 s0 : Int32} {h : td_H} (K : (s0 = 0 → td_J G d mX7_read Post 39 [(0, .ref 11), (1, .int x1)] [] h) ∧ (¬ s0 = 0 → td_J G d mX7_read Post 26 [(0, .ref 11), (1, .int x1)] [.ref 11] h)) : td_J G d mX7_read Post 22 [(0, .ref 11), (1, .int x1)] [.int s0] h := by
  obtain ⟨Kt, Kf⟩ := K
  refine td_if_eq (tgt := 39) dX7_read_22 (by decide) (fun q => ?_) (fun q => ?_)
  · have K := Kt q
    exact K
  · have K := Kf q
    refine td_aload_n 0 dX7_read_25 rfl ?_
    exact K
set_option maxRecDepth 20000 in
theorem rX7_read_29 {G : td_G} {d : Nat} {Post : td_P} {x1 s0 : Int32} {h : td_H} (K : (s0 = 0 → td_J G d mX7_read Post 39 [(0, .ref 11), (1, .int x1)] [] h) ∧ (¬ s0 = 0 → td_J G d mX7_read Post 33 [(0, .ref 11), (1, .int x1)] [.ref 11] h)) : td_J G d mX7_read Post 29 [(0, .ref 11), (1, .int x1)] [.int s0] h := by
  obtain ⟨Kt, Kf⟩ := K
  refine td_if_eq (tgt := 39) dX7_read_29 (by decide) (fun q => ?_) (fun q => ?_)
  · have K := Kt q
    exact K
  · have K := Kf q
    refine td_aload_n 0 dX7_read_32 rfl ?_
    exact K
set_option maxRecDepth 20000 in
theorem rX7_read_36 {G : td_G} {d : Nat} {Post : td_P} {x1 s0 : Int32} {h : td_H} (K : (¬ s0 = 0 → td_J G d mX7_read Post 55 [(0, .ref 11), (1, .int x1)] [.ref 11] (hu h 11 5 ((h 11 5) + 1))) ∧ (s0 = 0 → td_J G d mX7_read Post 39 [(0, .ref 11), (1, .int x1)] [] h)) : td_J G d mX7_read Post 36 [(0, .ref 11), (1, .int x1)] [.int s0] h := by
  obtain ⟨Kt, Kf⟩ := K
  refine td_if_ne (tgt := 44) dX7_read_36 (by decide) (fun q => ?_) (fun q => ?_)
  · have K := Kt q
    refine td_aload_n 0 dX7_read_44 rfl ?_
    refine td_dup dX7_read_45 rfl ?_
    refine gf_X7_35 rfl kp_11 dX7_read_46 ?_
    refine td_iconst (v := 1) dX7_read_49 (by decide) ?_
    refine td_iadd dX7_read_50 ?_
    refine pf_X7_35 rfl kp_11 dX7_read_51 ?_
    refine td_aload_n 0 dX7_read_54 rfl ?_
    exact K
  · have K := Kf q
    exact K
set_option maxRecDepth 20000 in
theorem rX7_read_39 {G : td_G} {d : Nat} {Post : td_P} {x1 : Int32} {h : td_H} (K : td_J G d mX7_read Post 40 [(0, .ref 11), (1, .int x1)] [.ref 11] h) : td_J G d mX7_read Post 39 [(0, .ref 11), (1, .int x1)] [] h := by
  refine td_aload_n 0 dX7_read_39 rfl ?_
  exact K
set_option maxRecDepth 20000 in
theorem rX7_read_43 {G : td_G} {d : Nat} {Post : td_P} {x1 s0 : Int32} {h : td_H} (K : Post (some (.int s0)) h) : td_J G d mX7_read Post 43 [(0, .ref 11), (1, .int x1)] [.int s0] h := by
  exact td_ireturn rfl dX7_read_43 K
set_option maxRecDepth 20000 in
theorem rX7_read_58 {G : td_G} {d : Nat} {Post : td_P} {x1 : Int32} {h : td_H} (K : (¬ (h 11 6) = (h 11 4) → (vp_in (h 11 6) 80 ∧ ((¬ (h 12 (ix (h 11 6))) = 59 → td_J G d mX7_read Post 94 [(0, .ref 11), (1, .int x1)] [] h) ∧ ((h 12 (ix (h 11 6))) = 59 → ((¬ (h 11 5) = 8 → td_J G d mX7_read Post 12 [(0, .ref 11), (1, .int (x1 + 1))] [] (hu h 11 6 ((h 11 6) + 1))) ∧ ((h 11 5) = 8 → td_J G d mX7_read Post 94 [(0, .ref 11), (1, .int x1)] [] h)))))) ∧ ((h 11 6) = (h 11 4) → (Post (some (.int 0)) h))) : td_J G d mX7_read Post 58 [(0, .ref 11), (1, .int x1)] [] h := by
  refine td_aload_n 0 dX7_read_58 rfl ?_
  refine gf_X7_32 rfl kp_11 dX7_read_59 ?_
  refine td_aload_n 0 dX7_read_62 rfl ?_
  refine gf_X7_28 rfl kp_11 dX7_read_63 ?_
  obtain ⟨Kt, Kf⟩ := K
  refine td_icmp_ne (tgt := 71) dX7_read_66 (by decide) (fun q => ?_) (fun q => ?_)
  · have K := Kt q
    refine td_aload_n 0 dX7_read_71 rfl ?_
    refine gf_X7_9 rfl kp_11 dX7_read_72 ?_
    refine td_aload_n 0 dX7_read_75 rfl ?_
    refine gf_X7_32 rfl kp_11 dX7_read_76 ?_
    obtain ⟨e79, K⟩ := K
    refine td_ialdc (j := (ix (h 11 6))) kp_12 (by decide) e79 rfl dX7_read_79 ?_
    refine td_bipush (v := 59) dX7_read_80 (by decide) ?_
    obtain ⟨Kt, Kf⟩ := K
    refine td_icmp_ne (tgt := 94) dX7_read_82 (by decide) (fun q => ?_) (fun q => ?_)
    · have K := Kt q
      exact K
    · have K := Kf q
      refine td_aload_n 0 dX7_read_85 rfl ?_
      refine gf_X7_35 rfl kp_11 dX7_read_86 ?_
      refine td_bipush (v := 8) dX7_read_89 (by decide) ?_
      obtain ⟨Kt, Kf⟩ := K
      refine td_icmp_ne (tgt := 99) dX7_read_91 (by decide) (fun q => ?_) (fun q => ?_)
      · have K := Kt q
        refine td_aload_n 0 dX7_read_99 rfl ?_
        refine td_dup dX7_read_100 rfl ?_
        refine gf_X7_32 rfl kp_11 dX7_read_101 ?_
        refine td_iconst (v := 1) dX7_read_104 (by decide) ?_
        refine td_iadd dX7_read_105 ?_
        refine pf_X7_32 rfl kp_11 dX7_read_106 ?_
        refine td_iinc 1 (v := x1 + 1) (lv2 := [(0, .ref 11), (1, .int (x1 + 1))]) dX7_read_109 rfl (congrArg (x1 + ·) (by decide)) (by decide) rfl ?_
        refine td_goto (tgt := 12) dX7_read_112 (by decide) ?_
        exact K
      · have K := Kf q
        exact K
  · have K := Kf q
    refine td_iconst (v := 0) dX7_read_69 (by decide) ?_
    exact td_ireturn rfl dX7_read_70 K
set_option maxRecDepth 20000 in
theorem rX7_read_94 {G : td_G} {d : Nat} {Post : td_P} {x1 : Int32} {h : td_H} (K : td_J G d mX7_read Post 95 [(0, .ref 11), (1, .int x1)] [.ref 11] h) : td_J G d mX7_read Post 94 [(0, .ref 11), (1, .int x1)] [] h := by
  refine td_aload_n 0 dX7_read_94 rfl ?_
  exact K
set_option maxRecDepth 20000 in
theorem rX7_read_98 {G : td_G} {d : Nat} {Post : td_P} {x1 s0 : Int32} {h : td_H} (K : Post (some (.int s0)) h) : td_J G d mX7_read Post 98 [(0, .ref 11), (1, .int x1)] [.int s0] h := by
  exact td_ireturn rfl dX7_read_98 K
set_option maxRecDepth 20000 in
theorem rX7_read_119 {G : td_G} {d : Nat} {Post : td_P} {x1 s0 : Int32} {h : td_H} (K : Post (some (.int s0)) h) : td_J G d mX7_read Post 119 [(0, .ref 11), (1, .int x1)] [.int s0] h := by
  exact td_ireturn rfl dX7_read_119 K
set_option maxRecDepth 20000 in
theorem rX7_faultHere_0 {G : td_G} {d : Nat} {Post : td_P} {h : td_H} (K : Post (some (.int ((-20) - (h 11 6)))) h) : td_J G d mX7_faultHere Post 0 [(0, .ref 11)] [] h := by
  refine td_bipush (v := (-20)) dX7_faultHere_0 (by decide) ?_
  refine td_aload_n 0 dX7_faultHere_2 rfl ?_
  refine gf_X7_32 rfl kp_11 dX7_faultHere_3 ?_
  refine td_isub dX7_faultHere_6 ?_
  exact td_ireturn rfl dX7_faultHere_7 K
set_option maxRecDepth 20000 in
theorem rX7_skipBlanks_0 {G : td_G} {d : Nat} {Post : td_P} {h : td_H} (K : ((h 11 4) ≤ (h 11 6) → td_J G d mX7_skipBlanks Post 38 [(0, .ref 11)] [] h) ∧ (¬ (h 11 4) ≤ (h 11 6) → (vp_in (h 11 6) 80 ∧ ((¬ (h 12 (ix (h 11 6))) = 32 → td_J G d mX7_skipBlanks Post 38 [(0, .ref 11)] [] h) ∧ ((h 12 (ix (h 11 6))) = 32 → td_J G d mX7_skipBlanks Post 0 [(0, .ref 11)] [] (hu h 11 6 ((h 11 6) + 1))))))) : td_J G d mX7_skipBlanks Post 0 [(0, .ref 11)] [] h := by
  refine td_aload_n 0 dX7_skipBlanks_0 rfl ?_
  refine gf_X7_32 rfl kp_11 dX7_skipBlanks_1 ?_
  refine td_aload_n 0 dX7_skipBlanks_4 rfl ?_
  refine gf_X7_28 rfl kp_11 dX7_skipBlanks_5 ?_
  obtain ⟨Kt, Kf⟩ := K
  refine td_icmp_ge (tgt := 38) dX7_skipBlanks_8 (by decide) (fun q => ?_) (fun q => ?_)
  · have K := Kt q
    exact K
  · have K := Kf q
    refine td_aload_n 0 dX7_skipBlanks_11 rfl ?_
    refine gf_X7_9 rfl kp_11 dX7_skipBlanks_12 ?_
    refine td_aload_n 0 dX7_skipBlanks_15 rfl ?_
    refine gf_X7_32 rfl kp_11 dX7_skipBlanks_16 ?_
    obtain ⟨e19, K⟩ := K
    refine td_ialdc (j := (ix (h 11 6))) kp_12 (by decide) e19 rfl dX7_skipBlanks_19 ?_
    refine td_bipush (v := 32) dX7_skipBlanks_20 (by decide) ?_
    obtain ⟨Kt, Kf⟩ := K
    refine td_icmp_ne (tgt := 38) dX7_skipBlanks_22 (by decide) (fun q => ?_) (fun q => ?_)
    · have K := Kt q
      exact K
    · have K := Kf q
      refine td_aload_n 0 dX7_skipBlanks_25 rfl ?_
      refine td_dup dX7_skipBlanks_26 rfl ?_
      refine gf_X7_32 rfl kp_11 dX7_skipBlanks_27 ?_
      refine td_iconst (v := 1) dX7_skipBlanks_30 (by decide) ?_
      refine td_iadd dX7_skipBlanks_31 ?_
      refine pf_X7_32 rfl kp_11 dX7_skipBlanks_32 ?_
      refine td_goto (tgt := 0) dX7_skipBlanks_35 (by decide) ?_
      exact K
set_option maxRecDepth 20000 in
theorem rX7_skipBlanks_38 {G : td_G} {d : Nat} {Post : td_P} {h : td_H} (K : Post none h) : td_J G d mX7_skipBlanks Post 38 [(0, .ref 11)] [] h := by
  exact td_return rfl dX7_skipBlanks_38 K
set_option maxRecDepth 20000 in
theorem rX7_byteHere_0 {G : td_G} {d : Nat} {Post : td_P} {h : td_H} (K : ((h 11 4) ≤ (h 11 6) → td_J G d mX7_byteHere Post 24 [(0, .ref 11)] [.int (-1)] h) ∧ (¬ (h 11 4) ≤ (h 11 6) → (vp_in (h 11 6) 80 ∧ (td_J G d mX7_byteHere Post 24 [(0, .ref 11)] [.int (h 12 (ix (h 11 6)))] h)))) : td_J G d mX7_byteHere Post 0 [(0, .ref 11)] [] h := by
  refine td_aload_n 0 dX7_byteHere_0 rfl ?_
  refine gf_X7_32 rfl kp_11 dX7_byteHere_1 ?_
  refine td_aload_n 0 dX7_byteHere_4 rfl ?_
  refine gf_X7_28 rfl kp_11 dX7_byteHere_5 ?_
  obtain ⟨Kt, Kf⟩ := K
  refine td_icmp_ge (tgt := 23) dX7_byteHere_8 (by decide) (fun q => ?_) (fun q => ?_)
  · have K := Kt q
    refine td_iconst (v := (-1)) dX7_byteHere_23 (by decide) ?_
    exact K
  · have K := Kf q
    refine td_aload_n 0 dX7_byteHere_11 rfl ?_
    refine gf_X7_9 rfl kp_11 dX7_byteHere_12 ?_
    refine td_aload_n 0 dX7_byteHere_15 rfl ?_
    refine gf_X7_32 rfl kp_11 dX7_byteHere_16 ?_
    obtain ⟨e19, K⟩ := K
    refine td_ialdc (j := (ix (h 11 6))) kp_12 (by decide) e19 rfl dX7_byteHere_19 ?_
    refine td_goto (tgt := 24) dX7_byteHere_20 (by decide) ?_
    exact K
set_option maxRecDepth 20000 in
theorem rX7_byteHere_24 {G : td_G} {d : Nat} {Post : td_P} {s0 : Int32} {h : td_H} (K : Post (some (.int s0)) h) : td_J G d mX7_byteHere Post 24 [(0, .ref 11)] [.int s0] h := by
  exact td_ireturn rfl dX7_byteHere_24 K
set_option maxRecDepth 20000 in
theorem rX7_readTick_0 {G : td_G} {d : Nat} {Post : td_P} {h : td_H} (K : td_J G d mX7_readTick Post 1 [(0, .ref 11)] [.ref 11] h) : td_J G d mX7_readTick Post 0 [(0, .ref 11)] [] h := by
  refine td_aload_n 0 dX7_readTick_0 rfl ?_
  exact K
set_option maxRecDepth 20000 in
theorem rX7_readTick_4 {G : td_G} {d : Nat} {Post : td_P} {h : td_H} (K : td_J G d mX7_readTick Post 11 [(0, .ref 11), (1, .int (h 11 6)), (2, .int 0)] [] h) : td_J G d mX7_readTick Post 4 [(0, .ref 11)] [] h := by
  refine td_aload_n 0 dX7_readTick_4 rfl ?_
  refine gf_X7_32 rfl kp_11 dX7_readTick_5 ?_
  refine td_istore_n (lv2 := [(0, .ref 11), (1, .int (h 11 6))]) dX7_readTick_8 (by decide) rfl ?_
  refine td_iconst (v := 0) dX7_readTick_9 (by decide) ?_
  refine td_istore_n (lv2 := [(0, .ref 11), (1, .int (h 11 6)), (2, .int 0)]) dX7_readTick_10 (by decide) rfl ?_
  exact K
set_option maxRecDepth 20000 in
theorem rX7_readTick_11 {G : td_G} {d : Nat} {Post : td_P} {x1 x2 : Int32} {h : td_H} (K : ((h 11 4) ≤ (h 11 6) → td_J G d mX7_readTick Post 86 [(0, .ref 11), (1, .int x1), (2, .int x2)] [] h) ∧ (¬ (h 11 4) ≤ (h 11 6) → (vp_in (h 11 6) 80 ∧ (((h 12 (ix (h 11 6))) < 48 → td_J G d mX7_readTick Post 86 [(0, .ref 11), (1, .int x1), (2, .int x2)] [] h) ∧ (¬ (h 12 (ix (h 11 6))) < 48 → (vp_in (h 11 6) 80 ∧ ((57 < (h 12 (ix (h 11 6))) → td_J G d mX7_readTick Post 86 [(0, .ref 11), (1, .int x1), (2, .int x2)] [] h) ∧ (¬ 57 < (h 12 (ix (h 11 6))) → (vp_in (h 11 6) 80 ∧ (td_J G d mX7_readTick Post 69 [(0, .ref 11), (1, .int x1), (2, .int x2)] [.int (((x2 * 10) + (h 12 (ix (h 11 6)))) - 48), .int 120] h)))))))))) : td_J G d mX7_readTick Post 11 [(0, .ref 11), (1, .int x1), (2, .int x2)] [] h := by
  refine td_aload_n 0 dX7_readTick_11 rfl ?_
  refine gf_X7_32 rfl kp_11 dX7_readTick_12 ?_
  refine td_aload_n 0 dX7_readTick_15 rfl ?_
  refine gf_X7_28 rfl kp_11 dX7_readTick_16 ?_
  obtain ⟨Kt, Kf⟩ := K
  refine td_icmp_ge (tgt := 86) dX7_readTick_19 (by decide) (fun q => ?_) (fun q => ?_)
  · have K := Kt q
    exact K
  · have K := Kf q
    refine td_aload_n 0 dX7_readTick_22 rfl ?_
    refine gf_X7_9 rfl kp_11 dX7_readTick_23 ?_
    refine td_aload_n 0 dX7_readTick_26 rfl ?_
    refine gf_X7_32 rfl kp_11 dX7_readTick_27 ?_
    obtain ⟨e30, K⟩ := K
    refine td_ialdc (j := (ix (h 11 6))) kp_12 (by decide) e30 rfl dX7_readTick_30 ?_
    refine td_bipush (v := 48) dX7_readTick_31 (by decide) ?_
    obtain ⟨Kt, Kf⟩ := K
    refine td_icmp_lt (tgt := 86) dX7_readTick_33 (by decide) (fun q => ?_) (fun q => ?_)
    · have K := Kt q
      exact K
    · have K := Kf q
      refine td_aload_n 0 dX7_readTick_36 rfl ?_
      refine gf_X7_9 rfl kp_11 dX7_readTick_37 ?_
      refine td_aload_n 0 dX7_readTick_40 rfl ?_
      refine gf_X7_32 rfl kp_11 dX7_readTick_41 ?_
      obtain ⟨e44, K⟩ := K
      refine td_ialdc (j := (ix (h 11 6))) kp_12 (by decide) e44 rfl dX7_readTick_44 ?_
      refine td_bipush (v := 57) dX7_readTick_45 (by decide) ?_
      obtain ⟨Kt, Kf⟩ := K
      refine td_icmp_gt (tgt := 86) dX7_readTick_47 (by decide) (fun q => ?_) (fun q => ?_)
      · have K := Kt q
        exact K
      · have K := Kf q
        refine td_bipush (v := 120) dX7_readTick_50 (by decide) ?_
        refine td_iload_n 2 dX7_readTick_52 rfl ?_
        refine td_bipush (v := 10) dX7_readTick_53 (by decide) ?_
        refine td_imul dX7_readTick_55 ?_
        refine td_aload_n 0 dX7_readTick_56 rfl ?_
        refine gf_X7_9 rfl kp_11 dX7_readTick_57 ?_
        refine td_aload_n 0 dX7_readTick_60 rfl ?_
        refine gf_X7_32 rfl kp_11 dX7_readTick_61 ?_
        obtain ⟨e64, K⟩ := K
        refine td_ialdc (j := (ix (h 11 6))) kp_12 (by decide) e64 rfl dX7_readTick_64 ?_
        refine td_iadd dX7_readTick_65 ?_
        refine td_bipush (v := 48) dX7_readTick_66 (by decide) ?_
        refine td_isub dX7_readTick_68 ?_
        exact K
set_option maxRecDepth 20000 in
theorem rX7_readTick_72 {G : td_G} {d : Nat} {Post : td_P} {x1 x2 s0 : Int32} {h : td_H} (K : td_J G d mX7_readTick Post 11 [(0, .ref 11), (1, .int x1), (2, .int s0)] [] (hu h 11 6 ((h 11 6) + 1))) : td_J G d mX7_readTick Post 72 [(0, .ref 11), (1, .int x1), (2, .int x2)] [.int s0] h := by
  refine td_istore_n (lv2 := [(0, .ref 11), (1, .int x1), (2, .int s0)]) dX7_readTick_72 (by decide) rfl ?_
  refine td_aload_n 0 dX7_readTick_73 rfl ?_
  refine td_dup dX7_readTick_74 rfl ?_
  refine gf_X7_32 rfl kp_11 dX7_readTick_75 ?_
  refine td_iconst (v := 1) dX7_readTick_78 (by decide) ?_
  refine td_iadd dX7_readTick_79 ?_
  refine pf_X7_32 rfl kp_11 dX7_readTick_80 ?_
  refine td_goto (tgt := 11) dX7_readTick_83 (by decide) ?_
  exact K
set_option maxRecDepth 20000 in
theorem rX7_readTick_86 {G : td_G} {d : Nat} {Post : td_P} {x1 x2 : Int32} {h : td_H} (K : ((h 11 6) = x1 → td_J G d mX7_readTick Post 100 [(0, .ref 11), (1, .int x1), (2, .int x2)] [] h) ∧ (¬ (h 11 6) = x1 → ((x2 < 120 → (vp_in (h 11 5) 8 ∧ (Post (some (.int 1)) (hu h 13 (ix (h 11 5)) x2)))) ∧ (¬ x2 < 120 → td_J G d mX7_readTick Post 100 [(0, .ref 11), (1, .int x1), (2, .int x2)] [] h)))) : td_J G d mX7_readTick Post 86 [(0, .ref 11), (1, .int x1), (2, .int x2)] [] h := by
  refine td_aload_n 0 dX7_readTick_86 rfl ?_
  refine gf_X7_32 rfl kp_11 dX7_readTick_87 ?_
  refine td_iload_n 1 dX7_readTick_90 rfl ?_
  obtain ⟨Kt, Kf⟩ := K
  refine td_icmp_eq (tgt := 100) dX7_readTick_91 (by decide) (fun q => ?_) (fun q => ?_)
  · have K := Kt q
    exact K
  · have K := Kf q
    refine td_iload_n 2 dX7_readTick_94 rfl ?_
    refine td_bipush (v := 120) dX7_readTick_95 (by decide) ?_
    obtain ⟨Kt, Kf⟩ := K
    refine td_icmp_lt (tgt := 107) dX7_readTick_97 (by decide) (fun q => ?_) (fun q => ?_)
    · have K := Kt q
      refine td_aload_n 0 dX7_readTick_107 rfl ?_
      refine gf_X7_15 rfl kp_11 dX7_readTick_108 ?_
      refine td_aload_n 0 dX7_readTick_111 rfl ?_
      refine gf_X7_35 rfl kp_11 dX7_readTick_112 ?_
      refine td_iload_n 2 dX7_readTick_115 rfl ?_
      obtain ⟨e116, K⟩ := K
      refine td_iastc (j := (ix (h 11 5))) kp_13 (by decide) e116 rfl dX7_readTick_116 ?_
      refine td_iconst (v := 1) dX7_readTick_117 (by decide) ?_
      exact td_zreturn rfl rfl dX7_readTick_118 K
    · have K := Kf q
      exact K
set_option maxRecDepth 20000 in
theorem rX7_readTick_100 {G : td_G} {d : Nat} {Post : td_P} {x1 x2 : Int32} {h : td_H} (K : Post (some (.int 0)) (hu h 11 6 x1)) : td_J G d mX7_readTick Post 100 [(0, .ref 11), (1, .int x1), (2, .int x2)] [] h := by
  refine td_aload_n 0 dX7_readTick_100 rfl ?_
  refine td_iload_n 1 dX7_readTick_101 rfl ?_
  refine pf_X7_32 rfl kp_11 dX7_readTick_102 ?_
  refine td_iconst (v := 0) dX7_readTick_105 (by decide) ?_
  exact td_zreturn rfl rfl dX7_readTick_106 K
set_option maxRecDepth 20000 in
theorem rX7_readSide_0 {G : td_G} {d : Nat} {Post : td_P} {h : td_H} (K : td_J G d mX7_readSide Post 1 [(0, .ref 11)] [.ref 11] h) : td_J G d mX7_readSide Post 0 [(0, .ref 11)] [] h := by
  refine td_aload_n 0 dX7_readSide_0 rfl ?_
  exact K
set_option maxRecDepth 20000 in
theorem rX7_readSide_4 {G : td_G} {d : Nat} {Post : td_P} {h : td_H} (K : td_J G d mX7_readSide Post 5 [(0, .ref 11)] [.ref 11] h) : td_J G d mX7_readSide Post 4 [(0, .ref 11)] [] h := by
  refine td_aload_n 0 dX7_readSide_4 rfl ?_
  exact K
set_option maxRecDepth 20000 in
theorem rX7_readSide_8 {G : td_G} {d : Nat} {Post : td_P} {s0 : Int32} {h : td_H} (K : (s0 = 115 → td_J G d mX7_readSide Post 23 [(0, .ref 11), (1, .int s0)] [] h) ∧ (¬ s0 = 115 → ((s0 = 104 → td_J G d mX7_readSide Post 23 [(0, .ref 11), (1, .int s0)] [] h) ∧ (¬ s0 = 104 → (Post (some (.int 0)) h))))) : td_J G d mX7_readSide Post 8 [(0, .ref 11)] [.int s0] h := by
  refine td_istore_n (lv2 := [(0, .ref 11), (1, .int s0)]) dX7_readSide_8 (by decide) rfl ?_
  refine td_iload_n 1 dX7_readSide_9 rfl ?_
  refine td_bipush (v := 115) dX7_readSide_10 (by decide) ?_
  obtain ⟨Kt, Kf⟩ := K
  refine td_icmp_eq (tgt := 23) dX7_readSide_12 (by decide) (fun q => ?_) (fun q => ?_)
  · have K := Kt q
    exact K
  · have K := Kf q
    refine td_iload_n 1 dX7_readSide_15 rfl ?_
    refine td_bipush (v := 104) dX7_readSide_16 (by decide) ?_
    obtain ⟨Kt, Kf⟩ := K
    refine td_icmp_eq (tgt := 23) dX7_readSide_18 (by decide) (fun q => ?_) (fun q => ?_)
    · have K := Kt q
      exact K
    · have K := Kf q
      refine td_iconst (v := 0) dX7_readSide_21 (by decide) ?_
      exact td_zreturn rfl rfl dX7_readSide_22 K
set_option maxRecDepth 20000 in
theorem rX7_readSide_23 {G : td_G} {d : Nat} {Post : td_P} {x1 : Int32} {h : td_H} (K : (¬ x1 = 115 → td_J G d mX7_readSide Post 42 [(0, .ref 11), (1, .int x1)] [.int 1, .int (h 11 5), .ref 14] h) ∧ (x1 = 115 → td_J G d mX7_readSide Post 42 [(0, .ref 11), (1, .int x1)] [.int 0, .int (h 11 5), .ref 14] h)) : td_J G d mX7_readSide Post 23 [(0, .ref 11), (1, .int x1)] [] h := by
  refine td_aload_n 0 dX7_readSide_23 rfl ?_
  refine gf_X7_18 rfl kp_11 dX7_readSide_24 ?_
  refine td_aload_n 0 dX7_readSide_27 rfl ?_
  refine gf_X7_35 rfl kp_11 dX7_readSide_28 ?_
  refine td_iload_n 1 dX7_readSide_31 rfl ?_
  refine td_bipush (v := 115) dX7_readSide_32 (by decide) ?_
  obtain ⟨Kt, Kf⟩ := K
  refine td_icmp_ne (tgt := 41) dX7_readSide_34 (by decide) (fun q => ?_) (fun q => ?_)
  · have K := Kt q
    refine td_iconst (v := 1) dX7_readSide_41 (by decide) ?_
    exact K
  · have K := Kf q
    refine td_iconst (v := 0) dX7_readSide_37 (by decide) ?_
    refine td_goto (tgt := 42) dX7_readSide_38 (by decide) ?_
    exact K
set_option maxRecDepth 20000 in
theorem rX7_readSide_42 {G : td_G} {d : Nat} {Post : td_P} {a0 na0 : Nat} {x1 s1 s2 : Int32} {h : td_H} (ha0 : td_kd a0 = 100 + na0) (ga0 : na0 ≠ 899) (K : vp_in s1 na0 ∧ (Post (some (.int 1)) (hu (hu h a0 (ix s1) s2) 11 6 (((hu h a0 (ix s1) s2) 11 6) + 1)))) : td_J G d mX7_readSide Post 42 [(0, .ref 11), (1, .int x1)] [.int s2, .int s1, .ref a0] h := by
  obtain ⟨e42, K⟩ := K
  refine td_iastc (j := (ix s1)) ha0 ga0 e42 rfl dX7_readSide_42 ?_
  refine td_aload_n 0 dX7_readSide_43 rfl ?_
  refine td_dup dX7_readSide_44 rfl ?_
  refine gf_X7_32 rfl kp_11 dX7_readSide_45 ?_
  refine td_iconst (v := 1) dX7_readSide_48 (by decide) ?_
  refine td_iadd dX7_readSide_49 ?_
  refine pf_X7_32 rfl kp_11 dX7_readSide_50 ?_
  refine td_iconst (v := 1) dX7_readSide_53 (by decide) ?_
  exact td_zreturn rfl rfl dX7_readSide_54 K
set_option maxRecDepth 20000 in
theorem rX7_readKind_0 {G : td_G} {d : Nat} {Post : td_P} {h : td_H} (K : td_J G d mX7_readKind Post 1 [(0, .ref 11)] [.ref 11] h) : td_J G d mX7_readKind Post 0 [(0, .ref 11)] [] h := by
  refine td_aload_n 0 dX7_readKind_0 rfl ?_
  exact K
set_option maxRecDepth 20000 in
theorem rX7_readKind_4 {G : td_G} {d : Nat} {Post : td_P} {h : td_H} (K : td_J G d mX7_readKind Post 5 [(0, .ref 11)] [.ref 11] h) : td_J G d mX7_readKind Post 4 [(0, .ref 11)] [] h := by
  refine td_aload_n 0 dX7_readKind_4 rfl ?_
  exact K
set_option maxRecDepth 20000 in
theorem rX7_readKind_8 {G : td_G} {d : Nat} {Post : td_P} {s0 : Int32} {h : td_H} (K : (0 ≤ s0 → td_J G d mX7_readKind Post 17 [(0, .ref 11), (1, .int s0)] [] h) ∧ (¬ 0 ≤ s0 → td_J G d mX7_readKind Post 24 [(0, .ref 11), (1, .int s0)] [.int (-1)] h)) : td_J G d mX7_readKind Post 8 [(0, .ref 11)] [.int s0] h := by
  refine td_istore_n (lv2 := [(0, .ref 11), (1, .int s0)]) dX7_readKind_8 (by decide) rfl ?_
  refine td_iload_n 1 dX7_readKind_9 rfl ?_
  obtain ⟨Kt, Kf⟩ := K
  refine td_if_ge (tgt := 17) dX7_readKind_10 (by decide) (fun q => ?_) (fun q => ?_)
  · have K := Kt q
    exact K
  · have K := Kf q
    refine td_iconst (v := (-1)) dX7_readKind_13 (by decide) ?_
    refine td_goto (tgt := 24) dX7_readKind_14 (by decide) ?_
    exact K
set_option maxRecDepth 20000 in
theorem rX7_readKind_19 {G : td_G} {d : Nat} {Post : td_P} {x1 : Int32} {h : td_H} (K : td_J G d mX7_readKind Post 21 [(0, .ref 11), (1, .int x1)] [.int ((x1.toUInt32 % 65536).toInt32), .ref 1010] h) : td_J G d mX7_readKind Post 19 [(0, .ref 11), (1, .int x1)] [.ref 1010] h := by
  refine td_iload_n 1 dX7_readKind_19 rfl ?_
  refine td_i2c dX7_readKind_20 ?_
  exact K
set_option maxRecDepth 20000 in
theorem rX7_readKind_24 {G : td_G} {d : Nat} {Post : td_P} {x1 s0 : Int32} {h : td_H} (K : (0 ≤ s0 → (vp_in (h 11 5) 8 ∧ (Post (some (.int 1)) (hu (hu h 15 (ix (h 11 5)) s0) 11 6 (((hu h 15 (ix (h 11 5)) s0) 11 6) + 1))))) ∧ (¬ 0 ≤ s0 → (Post (some (.int 0)) h))) : td_J G d mX7_readKind Post 24 [(0, .ref 11), (1, .int x1)] [.int s0] h := by
  refine td_istore_n (lv2 := [(0, .ref 11), (1, .int x1), (2, .int s0)]) dX7_readKind_24 (by decide) rfl ?_
  refine td_iload_n 2 dX7_readKind_25 rfl ?_
  obtain ⟨Kt, Kf⟩ := K
  refine td_if_ge (tgt := 31) dX7_readKind_26 (by decide) (fun q => ?_) (fun q => ?_)
  · have K := Kt q
    refine td_aload_n 0 dX7_readKind_31 rfl ?_
    refine gf_X7_21 rfl kp_11 dX7_readKind_32 ?_
    refine td_aload_n 0 dX7_readKind_35 rfl ?_
    refine gf_X7_35 rfl kp_11 dX7_readKind_36 ?_
    refine td_iload_n 2 dX7_readKind_39 rfl ?_
    obtain ⟨e40, K⟩ := K
    refine td_iastc (j := (ix (h 11 5))) kp_15 (by decide) e40 rfl dX7_readKind_40 ?_
    refine td_aload_n 0 dX7_readKind_41 rfl ?_
    refine td_dup dX7_readKind_42 rfl ?_
    refine gf_X7_32 rfl kp_11 dX7_readKind_43 ?_
    refine td_iconst (v := 1) dX7_readKind_46 (by decide) ?_
    refine td_iadd dX7_readKind_47 ?_
    refine pf_X7_32 rfl kp_11 dX7_readKind_48 ?_
    refine td_iconst (v := 1) dX7_readKind_51 (by decide) ?_
    exact td_zreturn rfl rfl dX7_readKind_52 K
  · have K := Kf q
    refine td_iconst (v := 0) dX7_readKind_29 (by decide) ?_
    exact td_zreturn rfl rfl dX7_readKind_30 K
