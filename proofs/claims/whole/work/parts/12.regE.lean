set_option maxRecDepth 20000 in
theorem rX0_begin_0 {G : td_G} {d : Nat} {Post : td_P} {k0 k1 : Nat} {x2 : Int32} {h : td_H} (hk0 : td_kd k0 = 0) (hk1 : td_kd k1 = 5) (K : td_J G d mX0_begin Post 15 [(0, .ref k0), (1, .ref k1), (2, .int x2)] [.ref k1, .ref (k0 + 1)] (hu (hu h k0 5 (nI k1)) k0 6 x2)) : td_J G d mX0_begin Post 0 [(0, .ref k0), (1, .ref k1), (2, .int x2)] [] h := by
  refine td_aload_n 0 dX0_begin_0 rfl ?_
  refine td_aload_n 1 dX0_begin_1 rfl ?_
  refine pf_X0_38 rfl hk0 (td_kd_lt hk1 (by decide)) dX0_begin_2 ?_
  refine td_aload_n 0 dX0_begin_5 rfl ?_
  refine td_iload_n 2 dX0_begin_6 rfl ?_
  refine pf_X0_42 rfl hk0 dX0_begin_7 ?_
  refine td_aload_n 0 dX0_begin_10 rfl ?_
  refine gf_X0_12 rfl hk0 dX0_begin_11 ?_
  refine td_aload_n 1 dX0_begin_14 rfl ?_
  exact K
set_option maxRecDepth 20000 in
theorem rX0_begin_18 {G : td_G} {d : Nat} {Post : td_P} {k0 k1 : Nat} {x2 : Int32} {h : td_H} (hk0 : td_kd k0 = 0) (hk1 : td_kd k1 = 5) (K : td_J G d mX0_begin Post 22 [(0, .ref k0), (1, .ref k1), (2, .int x2)] [.ref (k0 + 7)] h) : td_J G d mX0_begin Post 18 [(0, .ref k0), (1, .ref k1), (2, .int x2)] [] h := by
  refine td_aload_n 0 dX0_begin_18 rfl ?_
  refine gf_X0_21 rfl hk0 dX0_begin_19 ?_
  exact K
set_option maxRecDepth 20000 in
theorem rX0_begin_25 {G : td_G} {d : Nat} {Post : td_P} {k0 k1 : Nat} {x2 : Int32} {h : td_H} (hk0 : td_kd k0 = 0) (hk1 : td_kd k1 = 5) (K : td_J G d mX0_begin Post 56 [(0, .ref k0), (1, .ref k1), (2, .int x2)] [.ref k0] (hu (hu (hu (hu (hu (hu h k0 9 0) k0 10 0) k0 11 0) k0 12 0) k0 13 0) k0 14 0)) : td_J G d mX0_begin Post 25 [(0, .ref k0), (1, .ref k1), (2, .int x2)] [] h := by
  refine td_aload_n 0 dX0_begin_25 rfl ?_
  refine td_iconst (v := 0) dX0_begin_26 (by decide) ?_
  refine pf_X0_52 rfl hk0 dX0_begin_27 ?_
  refine td_aload_n 0 dX0_begin_30 rfl ?_
  refine td_iconst (v := 0) dX0_begin_31 (by decide) ?_
  refine pf_X0_55 rfl hk0 dX0_begin_32 ?_
  refine td_aload_n 0 dX0_begin_35 rfl ?_
  refine td_iconst (v := 0) dX0_begin_36 (by decide) ?_
  refine pf_X0_58 rfl hk0 dX0_begin_37 ?_
  refine td_aload_n 0 dX0_begin_40 rfl ?_
  refine td_iconst (v := 0) dX0_begin_41 (by decide) ?_
  refine pf_X0_61 rfl hk0 dX0_begin_42 ?_
  refine td_aload_n 0 dX0_begin_45 rfl ?_
  refine td_iconst (v := 0) dX0_begin_46 (by decide) ?_
  refine pf_X0_64 rfl hk0 dX0_begin_47 ?_
  refine td_aload_n 0 dX0_begin_50 rfl ?_
  refine td_iconst (v := 0) dX0_begin_51 (by decide) ?_
  refine pf_X0_67 rfl hk0 dX0_begin_52 ?_
  refine td_aload_n 0 dX0_begin_55 rfl ?_
  exact K
set_option maxRecDepth 20000 in
theorem rX0_begin_59 {G : td_G} {d : Nat} {Post : td_P} {k0 k1 : Nat} {x2 : Int32} {h : td_H} (hk0 : td_kd k0 = 0) (hk1 : td_kd k1 = 5) (K : td_J G d mX0_begin Post 60 [(0, .ref k0), (1, .ref k1), (2, .int x2)] [.ref k0] h) : td_J G d mX0_begin Post 59 [(0, .ref k0), (1, .ref k1), (2, .int x2)] [] h := by
  refine td_aload_n 0 dX0_begin_59 rfl ?_
  exact K
set_option maxRecDepth 20000 in
theorem rX0_begin_63 {G : td_G} {d : Nat} {Post : td_P} {k0 k1 : Nat} {x2 : Int32} {h : td_H} (hk0 : td_kd k0 = 0) (hk1 : td_kd k1 = 5) (K : Post none h) : td_J G d mX0_begin Post 63 [(0, .ref k0), (1, .ref k1), (2, .int x2)] [] h := by
  exact td_return rfl dX0_begin_63 K
set_option maxRecDepth 20000 in
theorem rX0_gather_0 {G : td_G} {d : Nat} {Post : td_P} {k0 : Nat} {h : td_H} (hk0 : td_kd k0 = 0) (K : td_J G d mX0_gather Post 29 [(0, .ref k0)] [.int 0, .ref (k0 + 13)] (hu (hu (hu (hu h k0 7 0) k0 8 0) (k0 + 14) 0 0) (k0 + 14) 1 0)) : td_J G d mX0_gather Post 0 [(0, .ref k0)] [] h := by
  refine td_aload_n 0 dX0_gather_0 rfl ?_
  refine td_iconst (v := 0) dX0_gather_1 (by decide) ?_
  refine pf_X0_76 rfl hk0 dX0_gather_2 ?_
  refine td_aload_n 0 dX0_gather_5 rfl ?_
  refine td_iconst (v := 0) dX0_gather_6 (by decide) ?_
  refine pf_X0_79 rfl hk0 dX0_gather_7 ?_
  refine td_aload_n 0 dX0_gather_10 rfl ?_
  refine gf_X0_32 rfl hk0 dX0_gather_11 ?_
  refine td_iconst (v := 0) dX0_gather_14 (by decide) ?_
  refine td_iconst (v := 0) dX0_gather_15 (by decide) ?_
  refine td_iastc (j := 0) (kd_0_4 hk0) (by decide) (by unfold vp_in; decide) (by decide) dX0_gather_16 ?_
  refine td_aload_n 0 dX0_gather_17 rfl ?_
  refine gf_X0_32 rfl hk0 dX0_gather_18 ?_
  refine td_iconst (v := 1) dX0_gather_21 (by decide) ?_
  refine td_iconst (v := 0) dX0_gather_22 (by decide) ?_
  refine td_iastc (j := 1) (kd_0_4 hk0) (by decide) (by unfold vp_in; decide) (by decide) dX0_gather_23 ?_
  refine td_aload_n 0 dX0_gather_24 rfl ?_
  refine gf_X0_29 rfl hk0 dX0_gather_25 ?_
  refine td_iconst (v := 0) dX0_gather_28 (by decide) ?_
  exact K
set_option maxRecDepth 20000 in
theorem rX0_gather_32 {G : td_G} {d : Nat} {Post : td_P} {k0 : Nat} {h : td_H} (hk0 : td_kd k0 = 0) (K : td_J G d mX0_gather Post 34 [(0, .ref k0), (1, .int 0)] [] h) : td_J G d mX0_gather Post 32 [(0, .ref k0)] [] h := by
  refine td_iconst (v := 0) dX0_gather_32 (by decide) ?_
  refine td_istore_n (lv2 := [(0, .ref k0), (1, .int 0)]) dX0_gather_33 (by decide) rfl ?_
  exact K
set_option maxRecDepth 20000 in
theorem rX0_gather_34 {G : td_G} {d : Nat} {Post : td_P} {k0 : Nat} {x1 : Int32} {h : td_H} (hk0 : td_kd k0 = 0) (K : td_kd (ix (h k0 5)) = 5 ∧ (((h (ix (h k0 5)) 4) ≤ x1 → (Post none h)) ∧ (¬ (h (ix (h k0 5)) 4) ≤ x1 → (td_kd (ix (h k0 5)) = 5 ∧ (vp_in x1 12 ∧ (vp_in (h (ix (h k0 5) + 3) (ix x1)) 2 ∧ (vp_in (h (ix (h k0 5) + 3) (ix x1)) 2 ∧ (td_kd (ix ((hu h (k0 + 14) (ix (h (ix (h k0 5) + 3) (ix x1))) ((h (k0 + 14) (ix (h (ix (h k0 5) + 3) (ix x1)))) ||| (jshl 1 x1))) k0 5)) = 5 ∧ (vp_in x1 12 ∧ (vp_in ((hu h (k0 + 14) (ix (h (ix (h k0 5) + 3) (ix x1))) ((h (k0 + 14) (ix (h (ix (h k0 5) + 3) (ix x1)))) ||| (jshl 1 x1))) (ix ((hu h (k0 + 14) (ix (h (ix (h k0 5) + 3) (ix x1))) ((h (k0 + 14) (ix (h (ix (h k0 5) + 3) (ix x1)))) ||| (jshl 1 x1))) k0 5) + 2) (ix x1)) 120 ∧ (vp_in ((hu h (k0 + 14) (ix (h (ix (h k0 5) + 3) (ix x1))) ((h (k0 + 14) (ix (h (ix (h k0 5) + 3) (ix x1)))) ||| (jshl 1 x1))) (ix ((hu h (k0 + 14) (ix (h (ix (h k0 5) + 3) (ix x1))) ((h (k0 + 14) (ix (h (ix (h k0 5) + 3) (ix x1)))) ||| (jshl 1 x1))) k0 5) + 2) (ix x1)) 120 ∧ (td_kd (ix ((hu (hu h (k0 + 14) (ix (h (ix (h k0 5) + 3) (ix x1))) ((h (k0 + 14) (ix (h (ix (h k0 5) + 3) (ix x1)))) ||| (jshl 1 x1))) (k0 + 13) (ix ((hu h (k0 + 14) (ix (h (ix (h k0 5) + 3) (ix x1))) ((h (k0 + 14) (ix (h (ix (h k0 5) + 3) (ix x1)))) ||| (jshl 1 x1))) (ix ((hu h (k0 + 14) (ix (h (ix (h k0 5) + 3) (ix x1))) ((h (k0 + 14) (ix (h (ix (h k0 5) + 3) (ix x1)))) ||| (jshl 1 x1))) k0 5) + 2) (ix x1))) (((hu h (k0 + 14) (ix (h (ix (h k0 5) + 3) (ix x1))) ((h (k0 + 14) (ix (h (ix (h k0 5) + 3) (ix x1)))) ||| (jshl 1 x1))) (k0 + 13) (ix ((hu h (k0 + 14) (ix (h (ix (h k0 5) + 3) (ix x1))) ((h (k0 + 14) (ix (h (ix (h k0 5) + 3) (ix x1)))) ||| (jshl 1 x1))) (ix ((hu h (k0 + 14) (ix (h (ix (h k0 5) + 3) (ix x1))) ((h (k0 + 14) (ix (h (ix (h k0 5) + 3) (ix x1)))) ||| (jshl 1 x1))) k0 5) + 2) (ix x1)))) ||| ((jshl 1 x1) &&& ((hu h (k0 + 14) (ix (h (ix (h k0 5) + 3) (ix x1))) ((h (k0 + 14) (ix (h (ix (h k0 5) + 3) (ix x1)))) ||| (jshl 1 x1))) k0 6)))) k0 5)) = 5 ∧ (vp_in x1 12 ∧ ((¬ ((hu (hu h (k0 + 14) (ix (h (ix (h k0 5) + 3) (ix x1))) ((h (k0 + 14) (ix (h (ix (h k0 5) + 3) (ix x1)))) ||| (jshl 1 x1))) (k0 + 13) (ix ((hu h (k0 + 14) (ix (h (ix (h k0 5) + 3) (ix x1))) ((h (k0 + 14) (ix (h (ix (h k0 5) + 3) (ix x1)))) ||| (jshl 1 x1))) (ix ((hu h (k0 + 14) (ix (h (ix (h k0 5) + 3) (ix x1))) ((h (k0 + 14) (ix (h (ix (h k0 5) + 3) (ix x1)))) ||| (jshl 1 x1))) k0 5) + 2) (ix x1))) (((hu h (k0 + 14) (ix (h (ix (h k0 5) + 3) (ix x1))) ((h (k0 + 14) (ix (h (ix (h k0 5) + 3) (ix x1)))) ||| (jshl 1 x1))) (k0 + 13) (ix ((hu h (k0 + 14) (ix (h (ix (h k0 5) + 3) (ix x1))) ((h (k0 + 14) (ix (h (ix (h k0 5) + 3) (ix x1)))) ||| (jshl 1 x1))) (ix ((hu h (k0 + 14) (ix (h (ix (h k0 5) + 3) (ix x1))) ((h (k0 + 14) (ix (h (ix (h k0 5) + 3) (ix x1)))) ||| (jshl 1 x1))) k0 5) + 2) (ix x1)))) ||| ((jshl 1 x1) &&& ((hu h (k0 + 14) (ix (h (ix (h k0 5) + 3) (ix x1))) ((h (k0 + 14) (ix (h (ix (h k0 5) + 3) (ix x1)))) ||| (jshl 1 x1))) k0 6)))) (ix ((hu (hu h (k0 + 14) (ix (h (ix (h k0 5) + 3) (ix x1))) ((h (k0 + 14) (ix (h (ix (h k0 5) + 3) (ix x1)))) ||| (jshl 1 x1))) (k0 + 13) (ix ((hu h (k0 + 14) (ix (h (ix (h k0 5) + 3) (ix x1))) ((h (k0 + 14) (ix (h (ix (h k0 5) + 3) (ix x1)))) ||| (jshl 1 x1))) (ix ((hu h (k0 + 14) (ix (h (ix (h k0 5) + 3) (ix x1))) ((h (k0 + 14) (ix (h (ix (h k0 5) + 3) (ix x1)))) ||| (jshl 1 x1))) k0 5) + 2) (ix x1))) (((hu h (k0 + 14) (ix (h (ix (h k0 5) + 3) (ix x1))) ((h (k0 + 14) (ix (h (ix (h k0 5) + 3) (ix x1)))) ||| (jshl 1 x1))) (k0 + 13) (ix ((hu h (k0 + 14) (ix (h (ix (h k0 5) + 3) (ix x1))) ((h (k0 + 14) (ix (h (ix (h k0 5) + 3) (ix x1)))) ||| (jshl 1 x1))) (ix ((hu h (k0 + 14) (ix (h (ix (h k0 5) + 3) (ix x1))) ((h (k0 + 14) (ix (h (ix (h k0 5) + 3) (ix x1)))) ||| (jshl 1 x1))) k0 5) + 2) (ix x1)))) ||| ((jshl 1 x1) &&& ((hu h (k0 + 14) (ix (h (ix (h k0 5) + 3) (ix x1))) ((h (k0 + 14) (ix (h (ix (h k0 5) + 3) (ix x1)))) ||| (jshl 1 x1))) k0 6)))) k0 5) + 4) (ix x1)) = 3 → (td_kd (ix ((hu (hu h (k0 + 14) (ix (h (ix (h k0 5) + 3) (ix x1))) ((h (k0 + 14) (ix (h (ix (h k0 5) + 3) (ix x1)))) ||| (jshl 1 x1))) (k0 + 13) (ix ((hu h (k0 + 14) (ix (h (ix (h k0 5) + 3) (ix x1))) ((h (k0 + 14) (ix (h (ix (h k0 5) + 3) (ix x1)))) ||| (jshl 1 x1))) (ix ((hu h (k0 + 14) (ix (h (ix (h k0 5) + 3) (ix x1))) ((h (k0 + 14) (ix (h (ix (h k0 5) + 3) (ix x1)))) ||| (jshl 1 x1))) k0 5) + 2) (ix x1))) (((hu h (k0 + 14) (ix (h (ix (h k0 5) + 3) (ix x1))) ((h (k0 + 14) (ix (h (ix (h k0 5) + 3) (ix x1)))) ||| (jshl 1 x1))) (k0 + 13) (ix ((hu h (k0 + 14) (ix (h (ix (h k0 5) + 3) (ix x1))) ((h (k0 + 14) (ix (h (ix (h k0 5) + 3) (ix x1)))) ||| (jshl 1 x1))) (ix ((hu h (k0 + 14) (ix (h (ix (h k0 5) + 3) (ix x1))) ((h (k0 + 14) (ix (h (ix (h k0 5) + 3) (ix x1)))) ||| (jshl 1 x1))) k0 5) + 2) (ix x1)))) ||| ((jshl 1 x1) &&& ((hu h (k0 + 14) (ix (h (ix (h k0 5) + 3) (ix x1))) ((h (k0 + 14) (ix (h (ix (h k0 5) + 3) (ix x1)))) ||| (jshl 1 x1))) k0 6)))) k0 5)) = 5 ∧ (vp_in x1 12 ∧ ((¬ ((hu (hu h (k0 + 14) (ix (h (ix (h k0 5) + 3) (ix x1))) ((h (k0 + 14) (ix (h (ix (h k0 5) + 3) (ix x1)))) ||| (jshl 1 x1))) (k0 + 13) (ix ((hu h (k0 + 14) (ix (h (ix (h k0 5) + 3) (ix x1))) ((h (k0 + 14) (ix (h (ix (h k0 5) + 3) (ix x1)))) ||| (jshl 1 x1))) (ix ((hu h (k0 + 14) (ix (h (ix (h k0 5) + 3) (ix x1))) ((h (k0 + 14) (ix (h (ix (h k0 5) + 3) (ix x1)))) ||| (jshl 1 x1))) k0 5) + 2) (ix x1))) (((hu h (k0 + 14) (ix (h (ix (h k0 5) + 3) (ix x1))) ((h (k0 + 14) (ix (h (ix (h k0 5) + 3) (ix x1)))) ||| (jshl 1 x1))) (k0 + 13) (ix ((hu h (k0 + 14) (ix (h (ix (h k0 5) + 3) (ix x1))) ((h (k0 + 14) (ix (h (ix (h k0 5) + 3) (ix x1)))) ||| (jshl 1 x1))) (ix ((hu h (k0 + 14) (ix (h (ix (h k0 5) + 3) (ix x1))) ((h (k0 + 14) (ix (h (ix (h k0 5) + 3) (ix x1)))) ||| (jshl 1 x1))) k0 5) + 2) (ix x1)))) ||| ((jshl 1 x1) &&& ((hu h (k0 + 14) (ix (h (ix (h k0 5) + 3) (ix x1))) ((h (k0 + 14) (ix (h (ix (h k0 5) + 3) (ix x1)))) ||| (jshl 1 x1))) k0 6)))) (ix ((hu (hu h (k0 + 14) (ix (h (ix (h k0 5) + 3) (ix x1))) ((h (k0 + 14) (ix (h (ix (h k0 5) + 3) (ix x1)))) ||| (jshl 1 x1))) (k0 + 13) (ix ((hu h (k0 + 14) (ix (h (ix (h k0 5) + 3) (ix x1))) ((h (k0 + 14) (ix (h (ix (h k0 5) + 3) (ix x1)))) ||| (jshl 1 x1))) (ix ((hu h (k0 + 14) (ix (h (ix (h k0 5) + 3) (ix x1))) ((h (k0 + 14) (ix (h (ix (h k0 5) + 3) (ix x1)))) ||| (jshl 1 x1))) k0 5) + 2) (ix x1))) (((hu h (k0 + 14) (ix (h (ix (h k0 5) + 3) (ix x1))) ((h (k0 + 14) (ix (h (ix (h k0 5) + 3) (ix x1)))) ||| (jshl 1 x1))) (k0 + 13) (ix ((hu h (k0 + 14) (ix (h (ix (h k0 5) + 3) (ix x1))) ((h (k0 + 14) (ix (h (ix (h k0 5) + 3) (ix x1)))) ||| (jshl 1 x1))) (ix ((hu h (k0 + 14) (ix (h (ix (h k0 5) + 3) (ix x1))) ((h (k0 + 14) (ix (h (ix (h k0 5) + 3) (ix x1)))) ||| (jshl 1 x1))) k0 5) + 2) (ix x1)))) ||| ((jshl 1 x1) &&& ((hu h (k0 + 14) (ix (h (ix (h k0 5) + 3) (ix x1))) ((h (k0 + 14) (ix (h (ix (h k0 5) + 3) (ix x1)))) ||| (jshl 1 x1))) k0 6)))) k0 5) + 4) (ix x1)) = 5 → td_J G d mX0_gather Post 139 [(0, .ref k0), (1, .int x1), (2, .int (jshl 1 x1))] [] (hu (hu h (k0 + 14) (ix (h (ix (h k0 5) + 3) (ix x1))) ((h (k0 + 14) (ix (h (ix (h k0 5) + 3) (ix x1)))) ||| (jshl 1 x1))) (k0 + 13) (ix ((hu h (k0 + 14) (ix (h (ix (h k0 5) + 3) (ix x1))) ((h (k0 + 14) (ix (h (ix (h k0 5) + 3) (ix x1)))) ||| (jshl 1 x1))) (ix ((hu h (k0 + 14) (ix (h (ix (h k0 5) + 3) (ix x1))) ((h (k0 + 14) (ix (h (ix (h k0 5) + 3) (ix x1)))) ||| (jshl 1 x1))) k0 5) + 2) (ix x1))) (((hu h (k0 + 14) (ix (h (ix (h k0 5) + 3) (ix x1))) ((h (k0 + 14) (ix (h (ix (h k0 5) + 3) (ix x1)))) ||| (jshl 1 x1))) (k0 + 13) (ix ((hu h (k0 + 14) (ix (h (ix (h k0 5) + 3) (ix x1))) ((h (k0 + 14) (ix (h (ix (h k0 5) + 3) (ix x1)))) ||| (jshl 1 x1))) (ix ((hu h (k0 + 14) (ix (h (ix (h k0 5) + 3) (ix x1))) ((h (k0 + 14) (ix (h (ix (h k0 5) + 3) (ix x1)))) ||| (jshl 1 x1))) k0 5) + 2) (ix x1)))) ||| ((jshl 1 x1) &&& ((hu h (k0 + 14) (ix (h (ix (h k0 5) + 3) (ix x1))) ((h (k0 + 14) (ix (h (ix (h k0 5) + 3) (ix x1)))) ||| (jshl 1 x1))) k0 6))))) ∧ (((hu (hu h (k0 + 14) (ix (h (ix (h k0 5) + 3) (ix x1))) ((h (k0 + 14) (ix (h (ix (h k0 5) + 3) (ix x1)))) ||| (jshl 1 x1))) (k0 + 13) (ix ((hu h (k0 + 14) (ix (h (ix (h k0 5) + 3) (ix x1))) ((h (k0 + 14) (ix (h (ix (h k0 5) + 3) (ix x1)))) ||| (jshl 1 x1))) (ix ((hu h (k0 + 14) (ix (h (ix (h k0 5) + 3) (ix x1))) ((h (k0 + 14) (ix (h (ix (h k0 5) + 3) (ix x1)))) ||| (jshl 1 x1))) k0 5) + 2) (ix x1))) (((hu h (k0 + 14) (ix (h (ix (h k0 5) + 3) (ix x1))) ((h (k0 + 14) (ix (h (ix (h k0 5) + 3) (ix x1)))) ||| (jshl 1 x1))) (k0 + 13) (ix ((hu h (k0 + 14) (ix (h (ix (h k0 5) + 3) (ix x1))) ((h (k0 + 14) (ix (h (ix (h k0 5) + 3) (ix x1)))) ||| (jshl 1 x1))) (ix ((hu h (k0 + 14) (ix (h (ix (h k0 5) + 3) (ix x1))) ((h (k0 + 14) (ix (h (ix (h k0 5) + 3) (ix x1)))) ||| (jshl 1 x1))) k0 5) + 2) (ix x1)))) ||| ((jshl 1 x1) &&& ((hu h (k0 + 14) (ix (h (ix (h k0 5) + 3) (ix x1))) ((h (k0 + 14) (ix (h (ix (h k0 5) + 3) (ix x1)))) ||| (jshl 1 x1))) k0 6)))) (ix ((hu (hu h (k0 + 14) (ix (h (ix (h k0 5) + 3) (ix x1))) ((h (k0 + 14) (ix (h (ix (h k0 5) + 3) (ix x1)))) ||| (jshl 1 x1))) (k0 + 13) (ix ((hu h (k0 + 14) (ix (h (ix (h k0 5) + 3) (ix x1))) ((h (k0 + 14) (ix (h (ix (h k0 5) + 3) (ix x1)))) ||| (jshl 1 x1))) (ix ((hu h (k0 + 14) (ix (h (ix (h k0 5) + 3) (ix x1))) ((h (k0 + 14) (ix (h (ix (h k0 5) + 3) (ix x1)))) ||| (jshl 1 x1))) k0 5) + 2) (ix x1))) (((hu h (k0 + 14) (ix (h (ix (h k0 5) + 3) (ix x1))) ((h (k0 + 14) (ix (h (ix (h k0 5) + 3) (ix x1)))) ||| (jshl 1 x1))) (k0 + 13) (ix ((hu h (k0 + 14) (ix (h (ix (h k0 5) + 3) (ix x1))) ((h (k0 + 14) (ix (h (ix (h k0 5) + 3) (ix x1)))) ||| (jshl 1 x1))) (ix ((hu h (k0 + 14) (ix (h (ix (h k0 5) + 3) (ix x1))) ((h (k0 + 14) (ix (h (ix (h k0 5) + 3) (ix x1)))) ||| (jshl 1 x1))) k0 5) + 2) (ix x1)))) ||| ((jshl 1 x1) &&& ((hu h (k0 + 14) (ix (h (ix (h k0 5) + 3) (ix x1))) ((h (k0 + 14) (ix (h (ix (h k0 5) + 3) (ix x1)))) ||| (jshl 1 x1))) k0 6)))) k0 5) + 4) (ix x1)) = 5 → td_J G d mX0_gather Post 139 [(0, .ref k0), (1, .int x1), (2, .int (jshl 1 x1))] [] (hu (hu (hu h (k0 + 14) (ix (h (ix (h k0 5) + 3) (ix x1))) ((h (k0 + 14) (ix (h (ix (h k0 5) + 3) (ix x1)))) ||| (jshl 1 x1))) (k0 + 13) (ix ((hu h (k0 + 14) (ix (h (ix (h k0 5) + 3) (ix x1))) ((h (k0 + 14) (ix (h (ix (h k0 5) + 3) (ix x1)))) ||| (jshl 1 x1))) (ix ((hu h (k0 + 14) (ix (h (ix (h k0 5) + 3) (ix x1))) ((h (k0 + 14) (ix (h (ix (h k0 5) + 3) (ix x1)))) ||| (jshl 1 x1))) k0 5) + 2) (ix x1))) (((hu h (k0 + 14) (ix (h (ix (h k0 5) + 3) (ix x1))) ((h (k0 + 14) (ix (h (ix (h k0 5) + 3) (ix x1)))) ||| (jshl 1 x1))) (k0 + 13) (ix ((hu h (k0 + 14) (ix (h (ix (h k0 5) + 3) (ix x1))) ((h (k0 + 14) (ix (h (ix (h k0 5) + 3) (ix x1)))) ||| (jshl 1 x1))) (ix ((hu h (k0 + 14) (ix (h (ix (h k0 5) + 3) (ix x1))) ((h (k0 + 14) (ix (h (ix (h k0 5) + 3) (ix x1)))) ||| (jshl 1 x1))) k0 5) + 2) (ix x1)))) ||| ((jshl 1 x1) &&& ((hu h (k0 + 14) (ix (h (ix (h k0 5) + 3) (ix x1))) ((h (k0 + 14) (ix (h (ix (h k0 5) + 3) (ix x1)))) ||| (jshl 1 x1))) k0 6)))) k0 8 (((hu (hu h (k0 + 14) (ix (h (ix (h k0 5) + 3) (ix x1))) ((h (k0 + 14) (ix (h (ix (h k0 5) + 3) (ix x1)))) ||| (jshl 1 x1))) (k0 + 13) (ix ((hu h (k0 + 14) (ix (h (ix (h k0 5) + 3) (ix x1))) ((h (k0 + 14) (ix (h (ix (h k0 5) + 3) (ix x1)))) ||| (jshl 1 x1))) (ix ((hu h (k0 + 14) (ix (h (ix (h k0 5) + 3) (ix x1))) ((h (k0 + 14) (ix (h (ix (h k0 5) + 3) (ix x1)))) ||| (jshl 1 x1))) k0 5) + 2) (ix x1))) (((hu h (k0 + 14) (ix (h (ix (h k0 5) + 3) (ix x1))) ((h (k0 + 14) (ix (h (ix (h k0 5) + 3) (ix x1)))) ||| (jshl 1 x1))) (k0 + 13) (ix ((hu h (k0 + 14) (ix (h (ix (h k0 5) + 3) (ix x1))) ((h (k0 + 14) (ix (h (ix (h k0 5) + 3) (ix x1)))) ||| (jshl 1 x1))) (ix ((hu h (k0 + 14) (ix (h (ix (h k0 5) + 3) (ix x1))) ((h (k0 + 14) (ix (h (ix (h k0 5) + 3) (ix x1)))) ||| (jshl 1 x1))) k0 5) + 2) (ix x1)))) ||| ((jshl 1 x1) &&& ((hu h (k0 + 14) (ix (h (ix (h k0 5) + 3) (ix x1))) ((h (k0 + 14) (ix (h (ix (h k0 5) + 3) (ix x1)))) ||| (jshl 1 x1))) k0 6)))) k0 8) ||| (jshl 1 x1)))))))) ∧ (((hu (hu h (k0 + 14) (ix (h (ix (h k0 5) + 3) (ix x1))) ((h (k0 + 14) (ix (h (ix (h k0 5) + 3) (ix x1)))) ||| (jshl 1 x1))) (k0 + 13) (ix ((hu h (k0 + 14) (ix (h (ix (h k0 5) + 3) (ix x1))) ((h (k0 + 14) (ix (h (ix (h k0 5) + 3) (ix x1)))) ||| (jshl 1 x1))) (ix ((hu h (k0 + 14) (ix (h (ix (h k0 5) + 3) (ix x1))) ((h (k0 + 14) (ix (h (ix (h k0 5) + 3) (ix x1)))) ||| (jshl 1 x1))) k0 5) + 2) (ix x1))) (((hu h (k0 + 14) (ix (h (ix (h k0 5) + 3) (ix x1))) ((h (k0 + 14) (ix (h (ix (h k0 5) + 3) (ix x1)))) ||| (jshl 1 x1))) (k0 + 13) (ix ((hu h (k0 + 14) (ix (h (ix (h k0 5) + 3) (ix x1))) ((h (k0 + 14) (ix (h (ix (h k0 5) + 3) (ix x1)))) ||| (jshl 1 x1))) (ix ((hu h (k0 + 14) (ix (h (ix (h k0 5) + 3) (ix x1))) ((h (k0 + 14) (ix (h (ix (h k0 5) + 3) (ix x1)))) ||| (jshl 1 x1))) k0 5) + 2) (ix x1)))) ||| ((jshl 1 x1) &&& ((hu h (k0 + 14) (ix (h (ix (h k0 5) + 3) (ix x1))) ((h (k0 + 14) (ix (h (ix (h k0 5) + 3) (ix x1)))) ||| (jshl 1 x1))) k0 6)))) (ix ((hu (hu h (k0 + 14) (ix (h (ix (h k0 5) + 3) (ix x1))) ((h (k0 + 14) (ix (h (ix (h k0 5) + 3) (ix x1)))) ||| (jshl 1 x1))) (k0 + 13) (ix ((hu h (k0 + 14) (ix (h (ix (h k0 5) + 3) (ix x1))) ((h (k0 + 14) (ix (h (ix (h k0 5) + 3) (ix x1)))) ||| (jshl 1 x1))) (ix ((hu h (k0 + 14) (ix (h (ix (h k0 5) + 3) (ix x1))) ((h (k0 + 14) (ix (h (ix (h k0 5) + 3) (ix x1)))) ||| (jshl 1 x1))) k0 5) + 2) (ix x1))) (((hu h (k0 + 14) (ix (h (ix (h k0 5) + 3) (ix x1))) ((h (k0 + 14) (ix (h (ix (h k0 5) + 3) (ix x1)))) ||| (jshl 1 x1))) (k0 + 13) (ix ((hu h (k0 + 14) (ix (h (ix (h k0 5) + 3) (ix x1))) ((h (k0 + 14) (ix (h (ix (h k0 5) + 3) (ix x1)))) ||| (jshl 1 x1))) (ix ((hu h (k0 + 14) (ix (h (ix (h k0 5) + 3) (ix x1))) ((h (k0 + 14) (ix (h (ix (h k0 5) + 3) (ix x1)))) ||| (jshl 1 x1))) k0 5) + 2) (ix x1)))) ||| ((jshl 1 x1) &&& ((hu h (k0 + 14) (ix (h (ix (h k0 5) + 3) (ix x1))) ((h (k0 + 14) (ix (h (ix (h k0 5) + 3) (ix x1)))) ||| (jshl 1 x1))) k0 6)))) k0 5) + 4) (ix x1)) = 3 → td_J G d mX0_gather Post 139 [(0, .ref k0), (1, .int x1), (2, .int (jshl 1 x1))] [] (hu (hu (hu h (k0 + 14) (ix (h (ix (h k0 5) + 3) (ix x1))) ((h (k0 + 14) (ix (h (ix (h k0 5) + 3) (ix x1)))) ||| (jshl 1 x1))) (k0 + 13) (ix ((hu h (k0 + 14) (ix (h (ix (h k0 5) + 3) (ix x1))) ((h (k0 + 14) (ix (h (ix (h k0 5) + 3) (ix x1)))) ||| (jshl 1 x1))) (ix ((hu h (k0 + 14) (ix (h (ix (h k0 5) + 3) (ix x1))) ((h (k0 + 14) (ix (h (ix (h k0 5) + 3) (ix x1)))) ||| (jshl 1 x1))) k0 5) + 2) (ix x1))) (((hu h (k0 + 14) (ix (h (ix (h k0 5) + 3) (ix x1))) ((h (k0 + 14) (ix (h (ix (h k0 5) + 3) (ix x1)))) ||| (jshl 1 x1))) (k0 + 13) (ix ((hu h (k0 + 14) (ix (h (ix (h k0 5) + 3) (ix x1))) ((h (k0 + 14) (ix (h (ix (h k0 5) + 3) (ix x1)))) ||| (jshl 1 x1))) (ix ((hu h (k0 + 14) (ix (h (ix (h k0 5) + 3) (ix x1))) ((h (k0 + 14) (ix (h (ix (h k0 5) + 3) (ix x1)))) ||| (jshl 1 x1))) k0 5) + 2) (ix x1)))) ||| ((jshl 1 x1) &&& ((hu h (k0 + 14) (ix (h (ix (h k0 5) + 3) (ix x1))) ((h (k0 + 14) (ix (h (ix (h k0 5) + 3) (ix x1)))) ||| (jshl 1 x1))) k0 6)))) k0 7 (((hu (hu h (k0 + 14) (ix (h (ix (h k0 5) + 3) (ix x1))) ((h (k0 + 14) (ix (h (ix (h k0 5) + 3) (ix x1)))) ||| (jshl 1 x1))) (k0 + 13) (ix ((hu h (k0 + 14) (ix (h (ix (h k0 5) + 3) (ix x1))) ((h (k0 + 14) (ix (h (ix (h k0 5) + 3) (ix x1)))) ||| (jshl 1 x1))) (ix ((hu h (k0 + 14) (ix (h (ix (h k0 5) + 3) (ix x1))) ((h (k0 + 14) (ix (h (ix (h k0 5) + 3) (ix x1)))) ||| (jshl 1 x1))) k0 5) + 2) (ix x1))) (((hu h (k0 + 14) (ix (h (ix (h k0 5) + 3) (ix x1))) ((h (k0 + 14) (ix (h (ix (h k0 5) + 3) (ix x1)))) ||| (jshl 1 x1))) (k0 + 13) (ix ((hu h (k0 + 14) (ix (h (ix (h k0 5) + 3) (ix x1))) ((h (k0 + 14) (ix (h (ix (h k0 5) + 3) (ix x1)))) ||| (jshl 1 x1))) (ix ((hu h (k0 + 14) (ix (h (ix (h k0 5) + 3) (ix x1))) ((h (k0 + 14) (ix (h (ix (h k0 5) + 3) (ix x1)))) ||| (jshl 1 x1))) k0 5) + 2) (ix x1)))) ||| ((jshl 1 x1) &&& ((hu h (k0 + 14) (ix (h (ix (h k0 5) + 3) (ix x1))) ((h (k0 + 14) (ix (h (ix (h k0 5) + 3) (ix x1)))) ||| (jshl 1 x1))) k0 6)))) k0 7) ||| (jshl 1 x1)))))))))))))))))) : td_J G d mX0_gather Post 34 [(0, .ref k0), (1, .int x1)] [] h := by
  refine td_iload_n 1 dX0_gather_34 rfl ?_
  refine td_aload_n 0 dX0_gather_35 rfl ?_
  refine gf_X0_38 rfl hk0 dX0_gather_36 ?_
  obtain ⟨e36, K⟩ := K
  refine gf_X0_88 rfl e36 dX0_gather_39 ?_
  obtain ⟨Kt, Kf⟩ := K
  refine td_icmp_ge (tgt := 145) dX0_gather_42 (by decide) (fun q => ?_) (fun q => ?_)
  · have K := Kt q
    exact td_return rfl dX0_gather_145 K
  · have K := Kf q
    refine td_iconst (v := 1) dX0_gather_45 (by decide) ?_
    refine td_iload_n 1 dX0_gather_46 rfl ?_
    refine td_ishl dX0_gather_47 ?_
    refine td_istore_n (lv2 := [(0, .ref k0), (1, .int x1), (2, .int (jshl 1 x1))]) dX0_gather_48 (by decide) rfl ?_
    refine td_aload_n 0 dX0_gather_49 rfl ?_
    refine gf_X0_32 rfl hk0 dX0_gather_50 ?_
    refine td_aload_n 0 dX0_gather_53 rfl ?_
    refine gf_X0_38 rfl hk0 dX0_gather_54 ?_
    obtain ⟨e54, K⟩ := K
    refine gf_X0_91 rfl e54 dX0_gather_57 ?_
    refine td_iload_n 1 dX0_gather_60 rfl ?_
    obtain ⟨e61, K⟩ := K
    refine td_ialdc (j := (ix x1)) (kd_5_2 e54) (by decide) e61 rfl dX0_gather_61 ?_
    refine td_dup2 dX0_gather_62 rfl rfl ?_
    obtain ⟨e63, K⟩ := K
    refine td_ialdc (j := (ix (h (ix (h k0 5) + 3) (ix x1)))) (kd_0_4 hk0) (by decide) e63 rfl dX0_gather_63 ?_
    refine td_iload_n 2 dX0_gather_64 rfl ?_
    refine td_ior dX0_gather_65 ?_
    obtain ⟨e66, K⟩ := K
    refine td_iastc (j := (ix (h (ix (h k0 5) + 3) (ix x1)))) (kd_0_4 hk0) (by decide) e66 rfl dX0_gather_66 ?_
    refine td_aload_n 0 dX0_gather_67 rfl ?_
    refine gf_X0_29 rfl hk0 dX0_gather_68 ?_
    refine td_aload_n 0 dX0_gather_71 rfl ?_
    refine gf_X0_38 rfl hk0 dX0_gather_72 ?_
    obtain ⟨e72, K⟩ := K
    refine gf_X0_94 rfl e72 dX0_gather_75 ?_
    refine td_iload_n 1 dX0_gather_78 rfl ?_
    obtain ⟨e79, K⟩ := K
    refine td_ialdc (j := (ix x1)) (kd_5_1 e72) (by decide) e79 rfl dX0_gather_79 ?_
    refine td_dup2 dX0_gather_80 rfl rfl ?_
    obtain ⟨e81, K⟩ := K
    refine td_ialdc (j := (ix ((hu h (k0 + 14) (ix (h (ix (h k0 5) + 3) (ix x1))) ((h (k0 + 14) (ix (h (ix (h k0 5) + 3) (ix x1)))) ||| (jshl 1 x1))) (ix ((hu h (k0 + 14) (ix (h (ix (h k0 5) + 3) (ix x1))) ((h (k0 + 14) (ix (h (ix (h k0 5) + 3) (ix x1)))) ||| (jshl 1 x1))) k0 5) + 2) (ix x1)))) (kd_0_3 hk0) (by decide) e81 rfl dX0_gather_81 ?_
    refine td_iload_n 2 dX0_gather_82 rfl ?_
    refine td_aload_n 0 dX0_gather_83 rfl ?_
    refine gf_X0_42 rfl hk0 dX0_gather_84 ?_
    refine td_iand dX0_gather_87 ?_
    refine td_ior dX0_gather_88 ?_
    obtain ⟨e89, K⟩ := K
    refine td_iastc (j := (ix ((hu h (k0 + 14) (ix (h (ix (h k0 5) + 3) (ix x1))) ((h (k0 + 14) (ix (h (ix (h k0 5) + 3) (ix x1)))) ||| (jshl 1 x1))) (ix ((hu h (k0 + 14) (ix (h (ix (h k0 5) + 3) (ix x1))) ((h (k0 + 14) (ix (h (ix (h k0 5) + 3) (ix x1)))) ||| (jshl 1 x1))) k0 5) + 2) (ix x1)))) (kd_0_3 hk0) (by decide) e89 rfl dX0_gather_89 ?_
    refine td_aload_n 0 dX0_gather_90 rfl ?_
    refine gf_X0_38 rfl hk0 dX0_gather_91 ?_
    obtain ⟨e91, K⟩ := K
    refine gf_X0_97 rfl e91 dX0_gather_94 ?_
    refine td_iload_n 1 dX0_gather_97 rfl ?_
    obtain ⟨e98, K⟩ := K
    refine td_ialdc (j := (ix x1)) (kd_5_3 e91) (by decide) e98 rfl dX0_gather_98 ?_
    refine td_iconst (v := 3) dX0_gather_99 (by decide) ?_
    obtain ⟨Kt, Kf⟩ := K
    refine td_icmp_ne (tgt := 116) dX0_gather_100 (by decide) (fun q => ?_) (fun q => ?_)
    · have K := Kt q
      refine td_aload_n 0 dX0_gather_116 rfl ?_
      refine gf_X0_38 rfl hk0 dX0_gather_117 ?_
      obtain ⟨e117, K⟩ := K
      refine gf_X0_97 rfl e117 dX0_gather_120 ?_
      refine td_iload_n 1 dX0_gather_123 rfl ?_
      obtain ⟨e124, K⟩ := K
      refine td_ialdc (j := (ix x1)) (kd_5_3 e117) (by decide) e124 rfl dX0_gather_124 ?_
      refine td_iconst (v := 5) dX0_gather_125 (by decide) ?_
      obtain ⟨Kt, Kf⟩ := K
      refine td_icmp_ne (tgt := 139) dX0_gather_126 (by decide) (fun q => ?_) (fun q => ?_)
      · have K := Kt q
        exact K
      · have K := Kf q
        refine td_aload_n 0 dX0_gather_129 rfl ?_
        refine td_dup dX0_gather_130 rfl ?_
        refine gf_X0_79 rfl hk0 dX0_gather_131 ?_
        refine td_iload_n 2 dX0_gather_134 rfl ?_
        refine td_ior dX0_gather_135 ?_
        refine pf_X0_79 rfl hk0 dX0_gather_136 ?_
        exact K
    · have K := Kf q
      refine td_aload_n 0 dX0_gather_103 rfl ?_
      refine td_dup dX0_gather_104 rfl ?_
      refine gf_X0_76 rfl hk0 dX0_gather_105 ?_
      refine td_iload_n 2 dX0_gather_108 rfl ?_
      refine td_ior dX0_gather_109 ?_
      refine pf_X0_76 rfl hk0 dX0_gather_110 ?_
      refine td_goto (tgt := 139) dX0_gather_113 (by decide) ?_
      exact K
set_option maxRecDepth 20000 in
theorem rX0_gather_139 {G : td_G} {d : Nat} {Post : td_P} {k0 : Nat} {x1 x2 : Int32} {h : td_H} (hk0 : td_kd k0 = 0) (K : td_J G d mX0_gather Post 34 [(0, .ref k0), (1, .int (x1 + 1))] [] h) : td_J G d mX0_gather Post 139 [(0, .ref k0), (1, .int x1), (2, .int x2)] [] h := by
  refine td_iinc 1 (v := x1 + 1) (lv2 := [(0, .ref k0), (1, .int (x1 + 1)), (2, .int x2)]) dX0_gather_139 rfl (congrArg (x1 + ·) (by decide)) (by decide) rfl ?_
  refine td_goto (tgt := 34) dX0_gather_142 (by decide) ?_
  refine td_drop [0, 1] rfl ?_
  exact K
set_option maxRecDepth 20000 in
theorem rX0_lineUp_0 {G : td_G} {d : Nat} {Post : td_P} {k0 : Nat} {h : td_H} (hk0 : td_kd k0 = 0) (K : td_J G d mX0_lineUp Post 2 [(0, .ref k0), (1, .int 0)] [] h) : td_J G d mX0_lineUp Post 0 [(0, .ref k0)] [] h := by
  refine td_iconst (v := 0) dX0_lineUp_0 (by decide) ?_
  refine td_istore_n (lv2 := [(0, .ref k0), (1, .int 0)]) dX0_lineUp_1 (by decide) rfl ?_
  exact K
set_option maxRecDepth 20000 in
theorem rX0_lineUp_2 {G : td_G} {d : Nat} {Post : td_P} {k0 : Nat} {x1 : Int32} {h : td_H} (hk0 : td_kd k0 = 0) (K : td_kd (ix (h k0 5)) = 5 ∧ (((h (ix (h k0 5)) 4) ≤ x1 → (Post none h)) ∧ (¬ (h (ix (h k0 5)) 4) ≤ x1 → td_J G d mX0_lineUp Post 15 [(0, .ref k0), (1, .int x1), (2, .int x1)] [] h))) : td_J G d mX0_lineUp Post 2 [(0, .ref k0), (1, .int x1)] [] h := by
  refine td_iload_n 1 dX0_lineUp_2 rfl ?_
  refine td_aload_n 0 dX0_lineUp_3 rfl ?_
  refine gf_X0_38 rfl hk0 dX0_lineUp_4 ?_
  obtain ⟨e4, K⟩ := K
  refine gf_X0_88 rfl e4 dX0_lineUp_7 ?_
  obtain ⟨Kt, Kf⟩ := K
  refine td_icmp_ge (tgt := 68) dX0_lineUp_10 (by decide) (fun q => ?_) (fun q => ?_)
  · have K := Kt q
    exact td_return rfl dX0_lineUp_68 K
  · have K := Kf q
    refine td_iload_n 1 dX0_lineUp_13 rfl ?_
    refine td_istore_n (lv2 := [(0, .ref k0), (1, .int x1), (2, .int x1)]) dX0_lineUp_14 (by decide) rfl ?_
    exact K
set_option maxRecDepth 20000 in
theorem rX0_lineUp_15 {G : td_G} {d : Nat} {Post : td_P} {k0 : Nat} {x1 x2 : Int32} {h : td_H} (hk0 : td_kd k0 = 0) (K : (x2 ≤ 0 → td_J G d mX0_lineUp Post 55 [(0, .ref k0), (1, .int x1), (2, .int x2)] [] h) ∧ (¬ x2 ≤ 0 → (vp_in (x2 - 1) 12 ∧ (td_J G d mX0_lineUp Post 29 [(0, .ref k0), (1, .int x1), (2, .int x2)] [.int (h (k0 + 12) (ix (x2 - 1))), .int x1, .ref k0] h)))) : td_J G d mX0_lineUp Post 15 [(0, .ref k0), (1, .int x1), (2, .int x2)] [] h := by
  refine td_iload_n 2 dX0_lineUp_15 rfl ?_
  obtain ⟨Kt, Kf⟩ := K
  refine td_if_le (tgt := 55) dX0_lineUp_16 (by decide) (fun q => ?_) (fun q => ?_)
  · have K := Kt q
    exact K
  · have K := Kf q
    refine td_aload_n 0 dX0_lineUp_19 rfl ?_
    refine td_iload_n 1 dX0_lineUp_20 rfl ?_
    refine td_aload_n 0 dX0_lineUp_21 rfl ?_
    refine gf_X0_25 rfl hk0 dX0_lineUp_22 ?_
    refine td_iload_n 2 dX0_lineUp_25 rfl ?_
    refine td_iconst (v := 1) dX0_lineUp_26 (by decide) ?_
    refine td_isub dX0_lineUp_27 ?_
    obtain ⟨e28, K⟩ := K
    refine td_ialdc (j := (ix (x2 - 1))) (kd_0_2 hk0) (by decide) e28 rfl dX0_lineUp_28 ?_
    exact K
set_option maxRecDepth 20000 in
theorem rX0_lineUp_32 {G : td_G} {d : Nat} {Post : td_P} {k0 : Nat} {x1 x2 s0 : Int32} {h : td_H} (hk0 : td_kd k0 = 0) (K : (s0 = 0 → td_J G d mX0_lineUp Post 55 [(0, .ref k0), (1, .int x1), (2, .int x2)] [] h) ∧ (¬ s0 = 0 → (vp_in (x2 - 1) 12 ∧ (vp_in x2 12 ∧ (td_J G d mX0_lineUp Post 15 [(0, .ref k0), (1, .int x1), (2, .int (x2 + (-1)))] [] (hu h (k0 + 12) (ix x2) (h (k0 + 12) (ix (x2 - 1))))))))) : td_J G d mX0_lineUp Post 32 [(0, .ref k0), (1, .int x1), (2, .int x2)] [.int s0] h := by
  obtain ⟨Kt, Kf⟩ := K
  refine td_if_eq (tgt := 55) dX0_lineUp_32 (by decide) (fun q => ?_) (fun q => ?_)
  · have K := Kt q
    exact K
  · have K := Kf q
    refine td_aload_n 0 dX0_lineUp_35 rfl ?_
    refine gf_X0_25 rfl hk0 dX0_lineUp_36 ?_
    refine td_iload_n 2 dX0_lineUp_39 rfl ?_
    refine td_aload_n 0 dX0_lineUp_40 rfl ?_
    refine gf_X0_25 rfl hk0 dX0_lineUp_41 ?_
    refine td_iload_n 2 dX0_lineUp_44 rfl ?_
    refine td_iconst (v := 1) dX0_lineUp_45 (by decide) ?_
    refine td_isub dX0_lineUp_46 ?_
    obtain ⟨e47, K⟩ := K
    refine td_ialdc (j := (ix (x2 - 1))) (kd_0_2 hk0) (by decide) e47 rfl dX0_lineUp_47 ?_
    obtain ⟨e48, K⟩ := K
    refine td_iastc (j := (ix x2)) (kd_0_2 hk0) (by decide) e48 rfl dX0_lineUp_48 ?_
    refine td_iinc 2 (v := x2 + (-1)) (lv2 := [(0, .ref k0), (1, .int x1), (2, .int (x2 + (-1)))]) dX0_lineUp_49 rfl (congrArg (x2 + ·) (by decide)) (by decide) rfl ?_
    refine td_goto (tgt := 15) dX0_lineUp_52 (by decide) ?_
    exact K
set_option maxRecDepth 20000 in
theorem rX0_lineUp_55 {G : td_G} {d : Nat} {Post : td_P} {k0 : Nat} {x1 x2 : Int32} {h : td_H} (hk0 : td_kd k0 = 0) (K : vp_in x2 12 ∧ (td_J G d mX0_lineUp Post 2 [(0, .ref k0), (1, .int (x1 + 1))] [] (hu h (k0 + 12) (ix x2) x1))) : td_J G d mX0_lineUp Post 55 [(0, .ref k0), (1, .int x1), (2, .int x2)] [] h := by
  refine td_aload_n 0 dX0_lineUp_55 rfl ?_
  refine gf_X0_25 rfl hk0 dX0_lineUp_56 ?_
  refine td_iload_n 2 dX0_lineUp_59 rfl ?_
  refine td_iload_n 1 dX0_lineUp_60 rfl ?_
  obtain ⟨e61, K⟩ := K
  refine td_iastc (j := (ix x2)) (kd_0_2 hk0) (by decide) e61 rfl dX0_lineUp_61 ?_
  refine td_iinc 1 (v := x1 + 1) (lv2 := [(0, .ref k0), (1, .int (x1 + 1)), (2, .int x2)]) dX0_lineUp_62 rfl (congrArg (x1 + ·) (by decide)) (by decide) rfl ?_
  refine td_goto (tgt := 2) dX0_lineUp_65 (by decide) ?_
  refine td_drop [0, 1] rfl ?_
  exact K
set_option maxRecDepth 20000 in
theorem rX0_isAhead_0 {G : td_G} {d : Nat} {Post : td_P} {k0 : Nat} {x1 x2 : Int32} {h : td_H} (hk0 : td_kd k0 = 0) (K : td_kd (ix (h k0 5)) = 5 ∧ (vp_in x1 12 ∧ ((¬ (h (ix (h k0 5) + 4) (ix x1)) = 4 → td_J G d mX0_isAhead Post 18 [(0, .ref k0), (1, .int x1), (2, .int x2)] [.int 0] h) ∧ ((h (ix (h k0 5) + 4) (ix x1)) = 4 → td_J G d mX0_isAhead Post 18 [(0, .ref k0), (1, .int x1), (2, .int x2)] [.int 1] h)))) : td_J G d mX0_isAhead Post 0 [(0, .ref k0), (1, .int x1), (2, .int x2)] [] h := by
  refine td_aload_n 0 dX0_isAhead_0 rfl ?_
  refine gf_X0_38 rfl hk0 dX0_isAhead_1 ?_
  obtain ⟨e1, K⟩ := K
  refine gf_X0_97 rfl e1 dX0_isAhead_4 ?_
  refine td_iload_n 1 dX0_isAhead_7 rfl ?_
  obtain ⟨e8, K⟩ := K
  refine td_ialdc (j := (ix x1)) (kd_5_3 e1) (by decide) e8 rfl dX0_isAhead_8 ?_
  refine td_iconst (v := 4) dX0_isAhead_9 (by decide) ?_
  obtain ⟨Kt, Kf⟩ := K
  refine td_icmp_ne (tgt := 17) dX0_isAhead_10 (by decide) (fun q => ?_) (fun q => ?_)
  · have K := Kt q
    refine td_iconst (v := 0) dX0_isAhead_17 (by decide) ?_
    exact K
  · have K := Kf q
    refine td_iconst (v := 1) dX0_isAhead_13 (by decide) ?_
    refine td_goto (tgt := 18) dX0_isAhead_14 (by decide) ?_
    exact K
set_option maxRecDepth 20000 in
theorem rX0_isAhead_18 {G : td_G} {d : Nat} {Post : td_P} {k0 : Nat} {x1 x2 s0 : Int32} {h : td_H} (hk0 : td_kd k0 = 0) (K : td_kd (ix (h k0 5)) = 5 ∧ (vp_in x2 12 ∧ ((¬ (h (ix (h k0 5) + 4) (ix x2)) = 4 → td_J G d mX0_isAhead Post 38 [(0, .ref k0), (1, .int x1), (2, .int x2), (3, .int s0)] [.int 0, .int s0] h) ∧ ((h (ix (h k0 5) + 4) (ix x2)) = 4 → td_J G d mX0_isAhead Post 38 [(0, .ref k0), (1, .int x1), (2, .int x2), (3, .int s0)] [.int 1, .int s0] h)))) : td_J G d mX0_isAhead Post 18 [(0, .ref k0), (1, .int x1), (2, .int x2)] [.int s0] h := by
  refine td_istore_n (lv2 := [(0, .ref k0), (1, .int x1), (2, .int x2), (3, .int s0)]) dX0_isAhead_18 (by decide) rfl ?_
  refine td_iload_n 3 dX0_isAhead_19 rfl ?_
  refine td_aload_n 0 dX0_isAhead_20 rfl ?_
  refine gf_X0_38 rfl hk0 dX0_isAhead_21 ?_
  obtain ⟨e21, K⟩ := K
  refine gf_X0_97 rfl e21 dX0_isAhead_24 ?_
  refine td_iload_n 2 dX0_isAhead_27 rfl ?_
  obtain ⟨e28, K⟩ := K
  refine td_ialdc (j := (ix x2)) (kd_5_3 e21) (by decide) e28 rfl dX0_isAhead_28 ?_
  refine td_iconst (v := 4) dX0_isAhead_29 (by decide) ?_
  obtain ⟨Kt, Kf⟩ := K
  refine td_icmp_ne (tgt := 37) dX0_isAhead_30 (by decide) (fun q => ?_) (fun q => ?_)
  · have K := Kt q
    refine td_iconst (v := 0) dX0_isAhead_37 (by decide) ?_
    exact K
  · have K := Kf q
    refine td_iconst (v := 1) dX0_isAhead_33 (by decide) ?_
    refine td_goto (tgt := 38) dX0_isAhead_34 (by decide) ?_
    exact K
set_option maxRecDepth 20000 in
theorem rX0_isAhead_38 {G : td_G} {d : Nat} {Post : td_P} {k0 : Nat} {x1 x2 x3 s0 s1 : Int32} {h : td_H} (hk0 : td_kd k0 = 0) (K : (s0 = s1 → (td_kd (ix (h k0 5)) = 5 ∧ (vp_in x1 12 ∧ (td_kd (ix (h k0 5)) = 5 ∧ (vp_in x2 12 ∧ (((h (ix (h k0 5) + 2) (ix x2)) ≤ (h (ix (h k0 5) + 2) (ix x1)) → td_J G d mX0_isAhead Post 69 [(0, .ref k0), (1, .int x1), (2, .int x2), (3, .int x3)] [.int 0] h) ∧ (¬ (h (ix (h k0 5) + 2) (ix x2)) ≤ (h (ix (h k0 5) + 2) (ix x1)) → td_J G d mX0_isAhead Post 69 [(0, .ref k0), (1, .int x1), (2, .int x2), (3, .int x3)] [.int 1] h))))))) ∧ (¬ s0 = s1 → ((x3 = 0 ∨ x3 = 1) ∧ Post (some (.int x3)) h))) : td_J G d mX0_isAhead Post 38 [(0, .ref k0), (1, .int x1), (2, .int x2), (3, .int x3)] [.int s1, .int s0] h := by
  obtain ⟨Kt, Kf⟩ := K
  refine td_icmp_eq (tgt := 43) dX0_isAhead_38 (by decide) (fun q => ?_) (fun q => ?_)
  · have K := Kt q
    refine td_aload_n 0 dX0_isAhead_43 rfl ?_
    refine gf_X0_38 rfl hk0 dX0_isAhead_44 ?_
    obtain ⟨e44, K⟩ := K
    refine gf_X0_94 rfl e44 dX0_isAhead_47 ?_
    refine td_iload_n 1 dX0_isAhead_50 rfl ?_
    obtain ⟨e51, K⟩ := K
    refine td_ialdc (j := (ix x1)) (kd_5_1 e44) (by decide) e51 rfl dX0_isAhead_51 ?_
    refine td_aload_n 0 dX0_isAhead_52 rfl ?_
    refine gf_X0_38 rfl hk0 dX0_isAhead_53 ?_
    obtain ⟨e53, K⟩ := K
    refine gf_X0_94 rfl e53 dX0_isAhead_56 ?_
    refine td_iload_n 2 dX0_isAhead_59 rfl ?_
    obtain ⟨e60, K⟩ := K
    refine td_ialdc (j := (ix x2)) (kd_5_1 e53) (by decide) e60 rfl dX0_isAhead_60 ?_
    obtain ⟨Kt, Kf⟩ := K
    refine td_icmp_ge (tgt := 68) dX0_isAhead_61 (by decide) (fun q => ?_) (fun q => ?_)
    · have K := Kt q
      refine td_iconst (v := 0) dX0_isAhead_68 (by decide) ?_
      exact K
    · have K := Kf q
      refine td_iconst (v := 1) dX0_isAhead_64 (by decide) ?_
      refine td_goto (tgt := 69) dX0_isAhead_65 (by decide) ?_
      exact K
  · have K := Kf q
    refine td_iload_n 3 dX0_isAhead_41 rfl ?_
    obtain ⟨e42, K⟩ := K
    exact td_zreturn rfl (td_nb e42) dX0_isAhead_42 K
set_option maxRecDepth 20000 in
theorem rX0_isAhead_69 {G : td_G} {d : Nat} {Post : td_P} {k0 : Nat} {x1 x2 x3 s0 : Int32} {h : td_H} (hk0 : td_kd k0 = 0) (K : (s0 = 0 ∨ s0 = 1) ∧ Post (some (.int s0)) h) : td_J G d mX0_isAhead Post 69 [(0, .ref k0), (1, .int x1), (2, .int x2), (3, .int x3)] [.int s0] h := by
  obtain ⟨e69, K⟩ := K
  exact td_zreturn rfl (td_nb e69) dX0_isAhead_69 K
set_option maxRecDepth 20000 in
theorem rX0_run_0 {G : td_G} {d : Nat} {Post : td_P} {k0 : Nat} {x1 x2 : Int32} {h : td_H} (hk0 : td_kd k0 = 0) (K : td_J G d mX0_run Post 2 [(0, .ref k0), (1, .int x1), (2, .int x2), (3, .int 0)] [] h) : td_J G d mX0_run Post 0 [(0, .ref k0), (1, .int x1), (2, .int x2)] [] h := by
  refine td_iconst (v := 0) dX0_run_0 (by decide) ?_
  refine td_istore_n (lv2 := [(0, .ref k0), (1, .int x1), (2, .int x2), (3, .int 0)]) dX0_run_1 (by decide) rfl ?_
  exact K
set_option maxRecDepth 20000 in
theorem rX0_run_2 {G : td_G} {d : Nat} {Post : td_P} {k0 : Nat} {x1 x2 x3 : Int32} {h : td_H} (hk0 : td_kd k0 = 0) (K : (x1 < x3 → td_J G d mX0_run Post 43 [(0, .ref k0), (1, .int x1), (2, .int x2), (3, .int x3)] [] h) ∧ (¬ x1 < x3 → ((120 ≤ x3 → td_J G d mX0_run Post 43 [(0, .ref k0), (1, .int x1), (2, .int x2), (3, .int x3)] [] h) ∧ (¬ 120 ≤ x3 → ((x2 = 0 → td_J G d mX0_run Post 32 [(0, .ref k0), (1, .int x1), (2, .int x2), (3, .int x3)] [] h) ∧ (¬ x2 = 0 → ((¬ (h (k0 + 7) 4) = (h k0 6) → td_J G d mX0_run Post 32 [(0, .ref k0), (1, .int x1), (2, .int x2), (3, .int x3)] [] h) ∧ ((h (k0 + 7) 4) = (h k0 6) → (Post none h))))))))) : td_J G d mX0_run Post 2 [(0, .ref k0), (1, .int x1), (2, .int x2), (3, .int x3)] [] h := by
  refine td_iload_n 3 dX0_run_2 rfl ?_
  refine td_iload_n 1 dX0_run_3 rfl ?_
  obtain ⟨Kt, Kf⟩ := K
  refine td_icmp_gt (tgt := 43) dX0_run_4 (by decide) (fun q => ?_) (fun q => ?_)
  · have K := Kt q
    exact K
  · have K := Kf q
    refine td_iload_n 3 dX0_run_7 rfl ?_
    refine td_bipush (v := 120) dX0_run_8 (by decide) ?_
    obtain ⟨Kt, Kf⟩ := K
    refine td_icmp_ge (tgt := 43) dX0_run_10 (by decide) (fun q => ?_) (fun q => ?_)
    · have K := Kt q
      exact K
    · have K := Kf q
      refine td_iload_n 2 dX0_run_13 rfl ?_
      obtain ⟨Kt, Kf⟩ := K
      refine td_if_eq (tgt := 32) dX0_run_14 (by decide) (fun q => ?_) (fun q => ?_)
      · have K := Kt q
        exact K
      · have K := Kf q
        refine td_aload_n 0 dX0_run_17 rfl ?_
        refine gf_X0_21 rfl hk0 dX0_run_18 ?_
        refine gf_X0_104 rfl (kd_0_1 hk0) dX0_run_21 ?_
        refine td_aload_n 0 dX0_run_24 rfl ?_
        refine gf_X0_42 rfl hk0 dX0_run_25 ?_
        obtain ⟨Kt, Kf⟩ := K
        refine td_icmp_ne (tgt := 32) dX0_run_28 (by decide) (fun q => ?_) (fun q => ?_)
        · have K := Kt q
          exact K
        · have K := Kf q
          exact td_return rfl dX0_run_31 K
set_option maxRecDepth 20000 in
theorem rX0_run_32 {G : td_G} {d : Nat} {Post : td_P} {k0 : Nat} {x1 x2 x3 : Int32} {h : td_H} (hk0 : td_kd k0 = 0) (K : td_J G d mX0_run Post 34 [(0, .ref k0), (1, .int x1), (2, .int x2), (3, .int x3)] [.int x3, .ref k0] h) : td_J G d mX0_run Post 32 [(0, .ref k0), (1, .int x1), (2, .int x2), (3, .int x3)] [] h := by
  refine td_aload_n 0 dX0_run_32 rfl ?_
  refine td_iload_n 3 dX0_run_33 rfl ?_
  exact K
set_option maxRecDepth 20000 in
theorem rX0_run_37 {G : td_G} {d : Nat} {Post : td_P} {k0 : Nat} {x1 x2 x3 : Int32} {h : td_H} (hk0 : td_kd k0 = 0) (K : td_J G d mX0_run Post 2 [(0, .ref k0), (1, .int x1), (2, .int x2), (3, .int (x3 + 1))] [] h) : td_J G d mX0_run Post 37 [(0, .ref k0), (1, .int x1), (2, .int x2), (3, .int x3)] [] h := by
  refine td_iinc 3 (v := x3 + 1) (lv2 := [(0, .ref k0), (1, .int x1), (2, .int x2), (3, .int (x3 + 1))]) dX0_run_37 rfl (congrArg (x3 + ·) (by decide)) (by decide) rfl ?_
  refine td_goto (tgt := 2) dX0_run_40 (by decide) ?_
  exact K
set_option maxRecDepth 20000 in
theorem rX0_run_43 {G : td_G} {d : Nat} {Post : td_P} {k0 : Nat} {x1 x2 x3 : Int32} {h : td_H} (hk0 : td_kd k0 = 0) (K : Post none h) : td_J G d mX0_run Post 43 [(0, .ref k0), (1, .int x1), (2, .int x2), (3, .int x3)] [] h := by
  exact td_return rfl dX0_run_43 K
set_option maxRecDepth 20000 in
theorem rX0_pass_0 {G : td_G} {d : Nat} {Post : td_P} {k0 : Nat} {x1 : Int32} {h : td_H} (hk0 : td_kd k0 = 0) (K : vp_in x1 120 ∧ (td_kd (ix ((hu h k0 10 ((h k0 10) ||| (h (k0 + 13) (ix x1)))) k0 5)) = 5 ∧ ((x1 < ((hu h k0 10 ((h k0 10) ||| (h (k0 + 13) (ix x1)))) (ix ((hu h k0 10 ((h k0 10) ||| (h (k0 + 13) (ix x1)))) k0 5) + 1) 8) → td_J G d mX0_pass Post 38 [(0, .ref k0), (1, .int x1)] [.ref k0] (hu h k0 10 ((h k0 10) ||| (h (k0 + 13) (ix x1))))) ∧ (¬ x1 < ((hu h k0 10 ((h k0 10) ||| (h (k0 + 13) (ix x1)))) (ix ((hu h k0 10 ((h k0 10) ||| (h (k0 + 13) (ix x1)))) k0 5) + 1) 8) → td_J G d mX0_pass Post 31 [(0, .ref k0), (1, .int x1)] [.int x1, .ref k0] (hu h k0 10 ((h k0 10) ||| (h (k0 + 13) (ix x1)))))))) : td_J G d mX0_pass Post 0 [(0, .ref k0), (1, .int x1)] [] h := by
  refine td_aload_n 0 dX0_pass_0 rfl ?_
  refine td_dup dX0_pass_1 rfl ?_
  refine gf_X0_55 rfl hk0 dX0_pass_2 ?_
  refine td_aload_n 0 dX0_pass_5 rfl ?_
  refine gf_X0_29 rfl hk0 dX0_pass_6 ?_
  refine td_iload_n 1 dX0_pass_9 rfl ?_
  obtain ⟨e10, K⟩ := K
  refine td_ialdc (j := (ix x1)) (kd_0_3 hk0) (by decide) e10 rfl dX0_pass_10 ?_
  refine td_ior dX0_pass_11 ?_
  refine pf_X0_55 rfl hk0 dX0_pass_12 ?_
  refine td_iload_n 1 dX0_pass_15 rfl ?_
  refine td_aload_n 0 dX0_pass_16 rfl ?_
  refine gf_X0_38 rfl hk0 dX0_pass_17 ?_
  obtain ⟨e17, K⟩ := K
  refine gf_X0_111 rfl e17 dX0_pass_20 ?_
  refine td_bipush (v := 8) dX0_pass_23 (by decide) ?_
  refine td_ialdc (j := 8) (kd_5_0 e17) (by decide) (by unfold vp_in; decide) (by decide) dX0_pass_25 ?_
  obtain ⟨Kt, Kf⟩ := K
  refine td_icmp_lt (tgt := 37) dX0_pass_26 (by decide) (fun q => ?_) (fun q => ?_)
  · have K := Kt q
    refine td_aload_n 0 dX0_pass_37 rfl ?_
    exact K
  · have K := Kf q
    refine td_aload_n 0 dX0_pass_29 rfl ?_
    refine td_iload_n 1 dX0_pass_30 rfl ?_
    exact K
set_option maxRecDepth 20000 in
theorem rX0_pass_34 {G : td_G} {d : Nat} {Post : td_P} {k0 : Nat} {x1 : Int32} {h : td_H} (hk0 : td_kd k0 = 0) (K : td_J G d mX0_pass Post 74 [(0, .ref k0), (1, .int x1)] [] h) : td_J G d mX0_pass Post 34 [(0, .ref k0), (1, .int x1)] [] h := by
  refine td_goto (tgt := 74) dX0_pass_34 (by decide) ?_
  exact K
set_option maxRecDepth 20000 in
theorem rX0_pass_41 {G : td_G} {d : Nat} {Post : td_P} {k0 : Nat} {x1 : Int32} {h : td_H} (hk0 : td_kd k0 = 0) (K : td_J G d mX0_pass Post 43 [(0, .ref k0), (1, .int x1), (2, .int 0)] [] h) : td_J G d mX0_pass Post 41 [(0, .ref k0), (1, .int x1)] [] h := by
  refine td_iconst (v := 0) dX0_pass_41 (by decide) ?_
  refine td_istore_n (lv2 := [(0, .ref k0), (1, .int x1), (2, .int 0)]) dX0_pass_42 (by decide) rfl ?_
  exact K
set_option maxRecDepth 20000 in
theorem rX0_pass_43 {G : td_G} {d : Nat} {Post : td_P} {k0 : Nat} {x1 x2 : Int32} {h : td_H} (hk0 : td_kd k0 = 0) (K : ((h k0 12) ≤ x2 → td_J G d mX0_pass Post 65 [(0, .ref k0), (1, .int x1), (2, .int x2)] [.int x1, .int 0, .ref k0] h) ∧ (¬ (h k0 12) ≤ x2 → td_J G d mX0_pass Post 53 [(0, .ref k0), (1, .int x1), (2, .int x2)] [.int x1, .ref k0] h)) : td_J G d mX0_pass Post 43 [(0, .ref k0), (1, .int x1), (2, .int x2)] [] h := by
  refine td_iload_n 2 dX0_pass_43 rfl ?_
  refine td_aload_n 0 dX0_pass_44 rfl ?_
  refine gf_X0_61 rfl hk0 dX0_pass_45 ?_
  obtain ⟨Kt, Kf⟩ := K
  refine td_icmp_ge (tgt := 62) dX0_pass_48 (by decide) (fun q => ?_) (fun q => ?_)
  · have K := Kt q
    refine td_aload_n 0 dX0_pass_62 rfl ?_
    refine td_iconst (v := 0) dX0_pass_63 (by decide) ?_
    refine td_iload_n 1 dX0_pass_64 rfl ?_
    exact K
  · have K := Kf q
    refine td_aload_n 0 dX0_pass_51 rfl ?_
    refine td_iload_n 1 dX0_pass_52 rfl ?_
    exact K
set_option maxRecDepth 20000 in
theorem rX0_pass_56 {G : td_G} {d : Nat} {Post : td_P} {k0 : Nat} {x1 x2 : Int32} {h : td_H} (hk0 : td_kd k0 = 0) (K : td_J G d mX0_pass Post 43 [(0, .ref k0), (1, .int x1), (2, .int (x2 + 1))] [] h) : td_J G d mX0_pass Post 56 [(0, .ref k0), (1, .int x1), (2, .int x2)] [] h := by
  refine td_iinc 2 (v := x2 + 1) (lv2 := [(0, .ref k0), (1, .int x1), (2, .int (x2 + 1))]) dX0_pass_56 rfl (congrArg (x2 + ·) (by decide)) (by decide) rfl ?_
  refine td_goto (tgt := 43) dX0_pass_59 (by decide) ?_
  exact K
set_option maxRecDepth 20000 in
theorem rX0_pass_68 {G : td_G} {d : Nat} {Post : td_P} {k0 : Nat} {x1 x2 : Int32} {h : td_H} (hk0 : td_kd k0 = 0) (K : td_J G d mX0_pass Post 71 [(0, .ref k0), (1, .int x1), (2, .int x2)] [.int x1, .int 1, .ref k0] h) : td_J G d mX0_pass Post 68 [(0, .ref k0), (1, .int x1), (2, .int x2)] [] h := by
  refine td_aload_n 0 dX0_pass_68 rfl ?_
  refine td_iconst (v := 1) dX0_pass_69 (by decide) ?_
  refine td_iload_n 1 dX0_pass_70 rfl ?_
  exact K
set_option maxRecDepth 20000 in
theorem rX0_pass_74 {G : td_G} {d : Nat} {Post : td_P} {k0 : Nat} {x1 : Int32} {h : td_H} (hk0 : td_kd k0 = 0) (K : (¬ (h k0 12) = 0 → td_J G d mX0_pass Post 106 [(0, .ref k0), (1, .int x1)] [] h) ∧ ((h k0 12) = 0 → ((((h (k0 + 1) 8) ||| (h k0 10)) = 0 → td_J G d mX0_pass Post 106 [(0, .ref k0), (1, .int x1)] [] h) ∧ (¬ ((h (k0 + 1) 8) ||| (h k0 10)) = 0 → td_J G d mX0_pass Post 106 [(0, .ref k0), (1, .int x1)] [] (hu h k0 14 ((h k0 14) + 1)))))) : td_J G d mX0_pass Post 74 [(0, .ref k0), (1, .int x1)] [] h := by
  refine td_aload_n 0 dX0_pass_74 rfl ?_
  refine gf_X0_61 rfl hk0 dX0_pass_75 ?_
  obtain ⟨Kt, Kf⟩ := K
  refine td_if_ne (tgt := 106) dX0_pass_78 (by decide) (fun q => ?_) (fun q => ?_)
  · have K := Kt q
    exact K
  · have K := Kf q
    refine td_aload_n 0 dX0_pass_81 rfl ?_
    refine gf_X0_12 rfl hk0 dX0_pass_82 ?_
    refine gf_X0_127 rfl (kd_0_0 hk0) dX0_pass_85 ?_
    refine td_aload_n 0 dX0_pass_88 rfl ?_
    refine gf_X0_55 rfl hk0 dX0_pass_89 ?_
    refine td_ior dX0_pass_92 ?_
    obtain ⟨Kt, Kf⟩ := K
    refine td_if_eq (tgt := 106) dX0_pass_93 (by decide) (fun q => ?_) (fun q => ?_)
    · have K := Kt q
      exact K
    · have K := Kf q
      refine td_aload_n 0 dX0_pass_96 rfl ?_
      refine td_dup dX0_pass_97 rfl ?_
      refine gf_X0_67 rfl hk0 dX0_pass_98 ?_
      refine td_iconst (v := 1) dX0_pass_101 (by decide) ?_
      refine td_iadd dX0_pass_102 ?_
      refine pf_X0_67 rfl hk0 dX0_pass_103 ?_
      exact K
set_option maxRecDepth 20000 in
theorem rX0_pass_106 {G : td_G} {d : Nat} {Post : td_P} {k0 : Nat} {x1 : Int32} {h : td_H} (hk0 : td_kd k0 = 0) (K : Post none h) : td_J G d mX0_pass Post 106 [(0, .ref k0), (1, .int x1)] [] h := by
  exact td_return rfl dX0_pass_106 K
set_option maxRecDepth 20000 in
theorem rX0_changeSpeed_0 {G : td_G} {d : Nat} {Post : td_P} {k0 : Nat} {h : td_H} (hk0 : td_kd k0 = 0) (K : ((h k0 13) ≤ 0 → (td_kd (ix (h k0 5)) = 5 ∧ (td_kd (ix (h k0 5)) = 5 ∧ ((((h k0 11) + (h (ix (h k0 5) + 1) 3)) < ((h (ix (h k0 5) + 1) 4) * ((h k0 12) + 1)) → ((((h (ix (h k0 5) + 1) 4) * (h k0 12)) ≤ ((h k0 11) + (h (ix (h k0 5) + 1) 3)) → td_J G d mX0_changeSpeed Post 109 [(0, .ref k0), (1, .int ((h k0 11) + (h (ix (h k0 5) + 1) 3))), (2, .int (h (ix (h k0 5) + 1) 4))] [] h) ∧ (¬ ((h (ix (h k0 5) + 1) 4) * (h k0 12)) ≤ ((h k0 11) + (h (ix (h k0 5) + 1) 3)) → td_J G d mX0_changeSpeed Post 109 [(0, .ref k0), (1, .int ((h k0 11) + (h (ix (h k0 5) + 1) 3))), (2, .int (h (ix (h k0 5) + 1) 4))] [] (hu h k0 12 ((h k0 12) - 1))))) ∧ (¬ ((h k0 11) + (h (ix (h k0 5) + 1) 3)) < ((h (ix (h k0 5) + 1) 4) * ((h k0 12) + 1)) → (td_kd (ix (h k0 5)) = 5 ∧ (((h (ix (h k0 5) + 1) 5) ≤ (h k0 12) → td_J G d mX0_changeSpeed Post 109 [(0, .ref k0), (1, .int ((h k0 11) + (h (ix (h k0 5) + 1) 3))), (2, .int (h (ix (h k0 5) + 1) 4))] [] h) ∧ (¬ (h (ix (h k0 5) + 1) 5) ≤ (h k0 12) → td_J G d mX0_changeSpeed Post 109 [(0, .ref k0), (1, .int ((h k0 11) + (h (ix (h k0 5) + 1) 3))), (2, .int (h (ix (h k0 5) + 1) 4))] [] (hu h k0 12 ((h k0 12) + 1)))))))))) ∧ (¬ (h k0 13) ≤ 0 → (Post none (hu (hu h k0 12 0) k0 13 (((hu h k0 12 0) k0 13) - 1))))) : td_J G d mX0_changeSpeed Post 0 [(0, .ref k0)] [] h := by
  refine td_aload_n 0 dX0_changeSpeed_0 rfl ?_
  refine gf_X0_64 rfl hk0 dX0_changeSpeed_1 ?_
  obtain ⟨Kt, Kf⟩ := K
  refine td_if_le (tgt := 23) dX0_changeSpeed_4 (by decide) (fun q => ?_) (fun q => ?_)
  · have K := Kt q
    refine td_aload_n 0 dX0_changeSpeed_23 rfl ?_
    refine gf_X0_58 rfl hk0 dX0_changeSpeed_24 ?_
    refine td_aload_n 0 dX0_changeSpeed_27 rfl ?_
    refine gf_X0_38 rfl hk0 dX0_changeSpeed_28 ?_
    obtain ⟨e28, K⟩ := K
    refine gf_X0_111 rfl e28 dX0_changeSpeed_31 ?_
    refine td_iconst (v := 3) dX0_changeSpeed_34 (by decide) ?_
    refine td_ialdc (j := 3) (kd_5_0 e28) (by decide) (by unfold vp_in; decide) (by decide) dX0_changeSpeed_35 ?_
    refine td_iadd dX0_changeSpeed_36 ?_
    refine td_istore_n (lv2 := [(0, .ref k0), (1, .int ((h k0 11) + (h (ix (h k0 5) + 1) 3)))]) dX0_changeSpeed_37 (by decide) rfl ?_
    refine td_aload_n 0 dX0_changeSpeed_38 rfl ?_
    refine gf_X0_38 rfl hk0 dX0_changeSpeed_39 ?_
    obtain ⟨e39, K⟩ := K
    refine gf_X0_111 rfl e39 dX0_changeSpeed_42 ?_
    refine td_iconst (v := 4) dX0_changeSpeed_45 (by decide) ?_
    refine td_ialdc (j := 4) (kd_5_0 e39) (by decide) (by unfold vp_in; decide) (by decide) dX0_changeSpeed_46 ?_
    refine td_istore_n (lv2 := [(0, .ref k0), (1, .int ((h k0 11) + (h (ix (h k0 5) + 1) 3))), (2, .int (h (ix (h k0 5) + 1) 4))]) dX0_changeSpeed_47 (by decide) rfl ?_
    refine td_iload_n 1 dX0_changeSpeed_48 rfl ?_
    refine td_iload_n 2 dX0_changeSpeed_49 rfl ?_
    refine td_aload_n 0 dX0_changeSpeed_50 rfl ?_
    refine gf_X0_61 rfl hk0 dX0_changeSpeed_51 ?_
    refine td_iconst (v := 1) dX0_changeSpeed_54 (by decide) ?_
    refine td_iadd dX0_changeSpeed_55 ?_
    refine td_imul dX0_changeSpeed_56 ?_
    obtain ⟨Kt, Kf⟩ := K
    refine td_icmp_lt (tgt := 89) dX0_changeSpeed_57 (by decide) (fun q => ?_) (fun q => ?_)
    · have K := Kt q
      refine td_iload_n 1 dX0_changeSpeed_89 rfl ?_
      refine td_iload_n 2 dX0_changeSpeed_90 rfl ?_
      refine td_aload_n 0 dX0_changeSpeed_91 rfl ?_
      refine gf_X0_61 rfl hk0 dX0_changeSpeed_92 ?_
      refine td_imul dX0_changeSpeed_95 ?_
      obtain ⟨Kt, Kf⟩ := K
      refine td_icmp_ge (tgt := 109) dX0_changeSpeed_96 (by decide) (fun q => ?_) (fun q => ?_)
      · have K := Kt q
        exact K
      · have K := Kf q
        refine td_aload_n 0 dX0_changeSpeed_99 rfl ?_
        refine td_dup dX0_changeSpeed_100 rfl ?_
        refine gf_X0_61 rfl hk0 dX0_changeSpeed_101 ?_
        refine td_iconst (v := 1) dX0_changeSpeed_104 (by decide) ?_
        refine td_isub dX0_changeSpeed_105 ?_
        refine pf_X0_61 rfl hk0 dX0_changeSpeed_106 ?_
        exact K
    · have K := Kf q
      refine td_aload_n 0 dX0_changeSpeed_60 rfl ?_
      refine gf_X0_61 rfl hk0 dX0_changeSpeed_61 ?_
      refine td_aload_n 0 dX0_changeSpeed_64 rfl ?_
      refine gf_X0_38 rfl hk0 dX0_changeSpeed_65 ?_
      obtain ⟨e65, K⟩ := K
      refine gf_X0_111 rfl e65 dX0_changeSpeed_68 ?_
      refine td_iconst (v := 5) dX0_changeSpeed_71 (by decide) ?_
      refine td_ialdc (j := 5) (kd_5_0 e65) (by decide) (by unfold vp_in; decide) (by decide) dX0_changeSpeed_72 ?_
      obtain ⟨Kt, Kf⟩ := K
      refine td_icmp_ge (tgt := 109) dX0_changeSpeed_73 (by decide) (fun q => ?_) (fun q => ?_)
      · have K := Kt q
        exact K
      · have K := Kf q
        refine td_aload_n 0 dX0_changeSpeed_76 rfl ?_
        refine td_dup dX0_changeSpeed_77 rfl ?_
        refine gf_X0_61 rfl hk0 dX0_changeSpeed_78 ?_
        refine td_iconst (v := 1) dX0_changeSpeed_81 (by decide) ?_
        refine td_iadd dX0_changeSpeed_82 ?_
        refine pf_X0_61 rfl hk0 dX0_changeSpeed_83 ?_
        refine td_goto (tgt := 109) dX0_changeSpeed_86 (by decide) ?_
        exact K
  · have K := Kf q
    refine td_aload_n 0 dX0_changeSpeed_7 rfl ?_
    refine td_iconst (v := 0) dX0_changeSpeed_8 (by decide) ?_
    refine pf_X0_61 rfl hk0 dX0_changeSpeed_9 ?_
    refine td_aload_n 0 dX0_changeSpeed_12 rfl ?_
    refine td_dup dX0_changeSpeed_13 rfl ?_
    refine gf_X0_64 rfl hk0 dX0_changeSpeed_14 ?_
    refine td_iconst (v := 1) dX0_changeSpeed_17 (by decide) ?_
    refine td_isub dX0_changeSpeed_18 ?_
    refine pf_X0_64 rfl hk0 dX0_changeSpeed_19 ?_
    exact td_return rfl dX0_changeSpeed_22 K
set_option maxRecDepth 20000 in
theorem rX0_changeSpeed_109 {G : td_G} {d : Nat} {Post : td_P} {k0 : Nat} {x1 x2 : Int32} {h : td_H} (hk0 : td_kd k0 = 0) (K : Post none h) : td_J G d mX0_changeSpeed Post 109 [(0, .ref k0), (1, .int x1), (2, .int x2)] [] h := by
  exact td_return rfl dX0_changeSpeed_109 K
set_option maxRecDepth 20000 in
theorem rX0_step_0 {G : td_G} {d : Nat} {Post : td_P} {k0 : Nat} {x1 : Int32} {h : td_H} (hk0 : td_kd k0 = 0) (K : td_J G d mX0_step Post 5 [(0, .ref k0), (1, .int x1)] [.int 0, .ref (k0 + 1)] h) : td_J G d mX0_step Post 0 [(0, .ref k0), (1, .int x1)] [] h := by
  refine td_aload_n 0 dX0_step_0 rfl ?_
  refine gf_X0_12 rfl hk0 dX0_step_1 ?_
  refine td_iconst (v := 0) dX0_step_4 (by decide) ?_
  exact K
set_option maxRecDepth 20000 in
theorem rX0_step_8 {G : td_G} {d : Nat} {Post : td_P} {k0 : Nat} {x1 s0 : Int32} {h : td_H} (hk0 : td_kd k0 = 0) (K : td_J G d mX0_step Post 14 [(0, .ref k0), (1, .int x1), (2, .int s0)] [.int 1, .ref (k0 + 1)] h) : td_J G d mX0_step Post 8 [(0, .ref k0), (1, .int x1)] [.int s0] h := by
  refine td_istore_n (lv2 := [(0, .ref k0), (1, .int x1), (2, .int s0)]) dX0_step_8 (by decide) rfl ?_
  refine td_aload_n 0 dX0_step_9 rfl ?_
  refine gf_X0_12 rfl hk0 dX0_step_10 ?_
  refine td_iconst (v := 1) dX0_step_13 (by decide) ?_
  exact K
set_option maxRecDepth 20000 in
theorem rX0_step_17 {G : td_G} {d : Nat} {Post : td_P} {k0 : Nat} {x1 x2 s0 : Int32} {h : td_H} (hk0 : td_kd k0 = 0) (K : td_J G d mX0_step Post 22 [(0, .ref k0), (1, .int x1), (2, .int x2), (3, .int s0)] [.ref (k0 + 1)] h) : td_J G d mX0_step Post 17 [(0, .ref k0), (1, .int x1), (2, .int x2)] [.int s0] h := by
  refine td_istore_n (lv2 := [(0, .ref k0), (1, .int x1), (2, .int x2), (3, .int s0)]) dX0_step_17 (by decide) rfl ?_
  refine td_aload_n 0 dX0_step_18 rfl ?_
  refine gf_X0_12 rfl hk0 dX0_step_19 ?_
  exact K
set_option maxRecDepth 20000 in
theorem rX0_step_25 {G : td_G} {d : Nat} {Post : td_P} {k0 : Nat} {x1 x2 x3 : Int32} {h : td_H} (hk0 : td_kd k0 = 0) (K : ((h (k0 + 1) 8) = 0 → td_J G d mX0_step Post 71 [(0, .ref k0), (1, .int x1), (2, .int x2), (3, .int x3)] [] h) ∧ (¬ (h (k0 + 1) 8) = 0 → td_J G d mX0_step Post 42 [(0, .ref k0), (1, .int x1), (2, .int x2), (3, .int x3)] [.int 0, .ref (k0 + 1), .int 0, .ref k0] h)) : td_J G d mX0_step Post 25 [(0, .ref k0), (1, .int x1), (2, .int x2), (3, .int x3)] [] h := by
  refine td_aload_n 0 dX0_step_25 rfl ?_
  refine gf_X0_12 rfl hk0 dX0_step_26 ?_
  refine gf_X0_127 rfl (kd_0_0 hk0) dX0_step_29 ?_
  obtain ⟨Kt, Kf⟩ := K
  refine td_if_eq (tgt := 71) dX0_step_32 (by decide) (fun q => ?_) (fun q => ?_)
  · have K := Kt q
    exact K
  · have K := Kf q
    refine td_aload_n 0 dX0_step_35 rfl ?_
    refine td_iconst (v := 0) dX0_step_36 (by decide) ?_
    refine td_aload_n 0 dX0_step_37 rfl ?_
    refine gf_X0_12 rfl hk0 dX0_step_38 ?_
    refine td_iconst (v := 0) dX0_step_41 (by decide) ?_
    exact K
set_option maxRecDepth 20000 in
theorem rX0_step_45 {G : td_G} {d : Nat} {Post : td_P} {k0 a0 : Nat} {x1 x2 x3 s1 s2 : Int32} {h : td_H} (hk0 : td_kd k0 = 0) (ha0 : td_kd a0 = 0) (K : td_J G d mX0_step Post 50 [(0, .ref k0), (1, .int x1), (2, .int x2), (3, .int x3)] [.int x1, .int (s2 &&& (x2 ^^^ (-1))), .int s1, .ref a0] h) : td_J G d mX0_step Post 45 [(0, .ref k0), (1, .int x1), (2, .int x2), (3, .int x3)] [.int s2, .int s1, .ref a0] h := by
  refine td_iload_n 2 dX0_step_45 rfl ?_
  refine td_iconst (v := (-1)) dX0_step_46 (by decide) ?_
  refine td_ixor dX0_step_47 ?_
  refine td_iand dX0_step_48 ?_
  refine td_iload_n 1 dX0_step_49 rfl ?_
  exact K
set_option maxRecDepth 20000 in
theorem rX0_step_53 {G : td_G} {d : Nat} {Post : td_P} {k0 : Nat} {x1 x2 x3 : Int32} {h : td_H} (hk0 : td_kd k0 = 0) (K : td_J G d mX0_step Post 60 [(0, .ref k0), (1, .int x1), (2, .int x2), (3, .int x3)] [.int 1, .ref (k0 + 1), .int 1, .ref k0] h) : td_J G d mX0_step Post 53 [(0, .ref k0), (1, .int x1), (2, .int x2), (3, .int x3)] [] h := by
  refine td_aload_n 0 dX0_step_53 rfl ?_
  refine td_iconst (v := 1) dX0_step_54 (by decide) ?_
  refine td_aload_n 0 dX0_step_55 rfl ?_
  refine gf_X0_12 rfl hk0 dX0_step_56 ?_
  refine td_iconst (v := 1) dX0_step_59 (by decide) ?_
  exact K
set_option maxRecDepth 20000 in
theorem rX0_step_63 {G : td_G} {d : Nat} {Post : td_P} {k0 a0 : Nat} {x1 x2 x3 s1 s2 : Int32} {h : td_H} (hk0 : td_kd k0 = 0) (ha0 : td_kd a0 = 0) (K : td_J G d mX0_step Post 68 [(0, .ref k0), (1, .int x1), (2, .int x2), (3, .int x3)] [.int x1, .int (s2 &&& (x3 ^^^ (-1))), .int s1, .ref a0] h) : td_J G d mX0_step Post 63 [(0, .ref k0), (1, .int x1), (2, .int x2), (3, .int x3)] [.int s2, .int s1, .ref a0] h := by
  refine td_iload_n 3 dX0_step_63 rfl ?_
  refine td_iconst (v := (-1)) dX0_step_64 (by decide) ?_
  refine td_ixor dX0_step_65 ?_
  refine td_iand dX0_step_66 ?_
  refine td_iload_n 1 dX0_step_67 rfl ?_
  exact K
set_option maxRecDepth 20000 in
theorem rX0_step_71 {G : td_G} {d : Nat} {Post : td_P} {k0 : Nat} {x1 x2 x3 : Int32} {h : td_H} (hk0 : td_kd k0 = 0) (K : td_J G d mX0_step Post 81 [(0, .ref k0), (1, .int x1), (2, .int x2), (3, .int x3)] [.int 0, .ref (k0 + 1), .int x2, .ref (k0 + 1)] h) : td_J G d mX0_step Post 71 [(0, .ref k0), (1, .int x1), (2, .int x2), (3, .int x3)] [] h := by
  refine td_aload_n 0 dX0_step_71 rfl ?_
  refine gf_X0_12 rfl hk0 dX0_step_72 ?_
  refine td_iload_n 2 dX0_step_75 rfl ?_
  refine td_aload_n 0 dX0_step_76 rfl ?_
  refine gf_X0_12 rfl hk0 dX0_step_77 ?_
  refine td_iconst (v := 0) dX0_step_80 (by decide) ?_
  exact K
set_option maxRecDepth 20000 in
theorem rX0_step_84 {G : td_G} {d : Nat} {Post : td_P} {k0 a0 : Nat} {x1 x2 x3 s1 s2 : Int32} {h : td_H} (hk0 : td_kd k0 = 0) (ha0 : td_kd a0 = 1) (K : td_J G d mX0_step Post 87 [(0, .ref k0), (1, .int x1), (2, .int x2), (3, .int x3)] [.int (s1 &&& (s2 ^^^ (-1))), .ref a0] h) : td_J G d mX0_step Post 84 [(0, .ref k0), (1, .int x1), (2, .int x2), (3, .int x3)] [.int s2, .int s1, .ref a0] h := by
  refine td_iconst (v := (-1)) dX0_step_84 (by decide) ?_
  refine td_ixor dX0_step_85 ?_
  refine td_iand dX0_step_86 ?_
  exact K
set_option maxRecDepth 20000 in
theorem rX0_step_90 {G : td_G} {d : Nat} {Post : td_P} {k0 : Nat} {x1 x2 x3 : Int32} {h : td_H} (hk0 : td_kd k0 = 0) (K : Post none h) : td_J G d mX0_step Post 90 [(0, .ref k0), (1, .int x1), (2, .int x2), (3, .int x3)] [] h := by
  exact td_return rfl dX0_step_90 K
set_option maxRecDepth 20000 in
theorem rX0_letOut_0 {G : td_G} {d : Nat} {Post : td_P} {k0 : Nat} {x1 x2 x3 : Int32} {h : td_H} (hk0 : td_kd k0 = 0) (K : (¬ x2 = 0 → td_J G d mX0_letOut Post 10 [(0, .ref k0), (1, .int x1), (2, .int x2), (3, .int x3)] [.int x2, .ref (k0 + 1)] h) ∧ (x2 = 0 → (Post none h))) : td_J G d mX0_letOut Post 0 [(0, .ref k0), (1, .int x1), (2, .int x2), (3, .int x3)] [] h := by
  refine td_iload_n 2 dX0_letOut_0 rfl ?_
  obtain ⟨Kt, Kf⟩ := K
  refine td_if_ne (tgt := 5) dX0_letOut_1 (by decide) (fun q => ?_) (fun q => ?_)
  · have K := Kt q
    refine td_aload_n 0 dX0_letOut_5 rfl ?_
    refine gf_X0_12 rfl hk0 dX0_letOut_6 ?_
    refine td_iload_n 2 dX0_letOut_9 rfl ?_
    exact K
  · have K := Kf q
    exact td_return rfl dX0_letOut_4 K
set_option maxRecDepth 20000 in
theorem rX0_letOut_13 {G : td_G} {d : Nat} {Post : td_P} {k0 : Nat} {x1 x2 x3 s0 : Int32} {h : td_H} (hk0 : td_kd k0 = 0) (K : vp_in (1 - x1) 2 ∧ (td_J G d mX0_letOut Post 60 [(0, .ref k0), (1, .int x1), (2, .int x2), (3, .int x3), (4, .int (s0 &&& (h (k0 + 14) (ix (1 - x1))))), (5, .int (((s0 &&& (h (k0 + 14) (ix (1 - x1)))) &&& (h k0 8)) &&& ((h k0 9) ^^^ (-1))))] [.int x3, .int ((s0 &&& (h (k0 + 14) (ix (1 - x1)))) &&& ((((s0 &&& (h (k0 + 14) (ix (1 - x1)))) &&& (h k0 8)) &&& ((h k0 9) ^^^ (-1))) ^^^ (-1))), .ref k0] (hu h k0 9 ((h k0 9) ||| (((s0 &&& (h (k0 + 14) (ix (1 - x1)))) &&& (h k0 8)) &&& ((h k0 9) ^^^ (-1))))))) : td_J G d mX0_letOut Post 13 [(0, .ref k0), (1, .int x1), (2, .int x2), (3, .int x3)] [.int s0] h := by
  refine td_aload_n 0 dX0_letOut_13 rfl ?_
  refine gf_X0_32 rfl hk0 dX0_letOut_14 ?_
  refine td_iconst (v := 1) dX0_letOut_17 (by decide) ?_
  refine td_iload_n 1 dX0_letOut_18 rfl ?_
  refine td_isub dX0_letOut_19 ?_
  obtain ⟨e20, K⟩ := K
  refine td_ialdc (j := (ix (1 - x1))) (kd_0_4 hk0) (by decide) e20 rfl dX0_letOut_20 ?_
  refine td_iand dX0_letOut_21 ?_
  refine td_istore (lv2 := [(0, .ref k0), (1, .int x1), (2, .int x2), (3, .int x3), (4, .int (s0 &&& (h (k0 + 14) (ix (1 - x1)))))]) dX0_letOut_22 (by decide) rfl ?_
  refine td_iload 4 dX0_letOut_24 rfl ?_
  refine td_aload_n 0 dX0_letOut_26 rfl ?_
  refine gf_X0_79 rfl hk0 dX0_letOut_27 ?_
  refine td_iand dX0_letOut_30 ?_
  refine td_aload_n 0 dX0_letOut_31 rfl ?_
  refine gf_X0_52 rfl hk0 dX0_letOut_32 ?_
  refine td_iconst (v := (-1)) dX0_letOut_35 (by decide) ?_
  refine td_ixor dX0_letOut_36 ?_
  refine td_iand dX0_letOut_37 ?_
  refine td_istore (lv2 := [(0, .ref k0), (1, .int x1), (2, .int x2), (3, .int x3), (4, .int (s0 &&& (h (k0 + 14) (ix (1 - x1))))), (5, .int (((s0 &&& (h (k0 + 14) (ix (1 - x1)))) &&& (h k0 8)) &&& ((h k0 9) ^^^ (-1))))]) dX0_letOut_38 (by decide) rfl ?_
  refine td_aload_n 0 dX0_letOut_40 rfl ?_
  refine td_dup dX0_letOut_41 rfl ?_
  refine gf_X0_52 rfl hk0 dX0_letOut_42 ?_
  refine td_iload 5 dX0_letOut_45 rfl ?_
  refine td_ior dX0_letOut_47 ?_
  refine pf_X0_52 rfl hk0 dX0_letOut_48 ?_
  refine td_aload_n 0 dX0_letOut_51 rfl ?_
  refine td_iload 4 dX0_letOut_52 rfl ?_
  refine td_iload 5 dX0_letOut_54 rfl ?_
  refine td_iconst (v := (-1)) dX0_letOut_56 (by decide) ?_
  refine td_ixor dX0_letOut_57 ?_
  refine td_iand dX0_letOut_58 ?_
  refine td_iload_n 3 dX0_letOut_59 rfl ?_
  exact K
set_option maxRecDepth 20000 in
theorem rX0_letOut_63 {G : td_G} {d : Nat} {Post : td_P} {k0 : Nat} {x1 x2 x3 x4 x5 : Int32} {h : td_H} (hk0 : td_kd k0 = 0) (K : Post none h) : td_J G d mX0_letOut Post 63 [(0, .ref k0), (1, .int x1), (2, .int x2), (3, .int x3), (4, .int x4), (5, .int x5)] [] h := by
  exact td_return rfl dX0_letOut_63 K
set_option maxRecDepth 20000 in
theorem rX0_endInside_0 {G : td_G} {d : Nat} {Post : td_P} {k0 : Nat} {x1 x2 : Int32} {h : td_H} (hk0 : td_kd k0 = 0) (K : td_J G d mX0_endInside Post 2 [(0, .ref k0), (1, .int x1), (2, .int x2), (3, .int 0)] [] h) : td_J G d mX0_endInside Post 0 [(0, .ref k0), (1, .int x1), (2, .int x2)] [] h := by
  refine td_iconst (v := 0) dX0_endInside_0 (by decide) ?_
  refine td_istore_n (lv2 := [(0, .ref k0), (1, .int x1), (2, .int x2), (3, .int 0)]) dX0_endInside_1 (by decide) rfl ?_
  exact K
set_option maxRecDepth 20000 in
theorem rX0_endInside_2 {G : td_G} {d : Nat} {Post : td_P} {k0 : Nat} {x1 x2 x3 : Int32} {h : td_H} (hk0 : td_kd k0 = 0) (K : td_kd (ix (h k0 5)) = 5 ∧ (((h (ix (h k0 5)) 4) ≤ x3 → td_J G d mX0_endInside Post 75 [(0, .ref k0), (1, .int x1), (2, .int x2), (3, .int x3)] [] h) ∧ (¬ (h (ix (h k0 5)) 4) ≤ x3 → (((jshr x1 x3) = 0 → td_J G d mX0_endInside Post 75 [(0, .ref k0), (1, .int x1), (2, .int x2), (3, .int x3)] [] h) ∧ (¬ (jshr x1 x3) = 0 → ((((jshr x1 x3) &&& 1) = 0 → td_J G d mX0_endInside Post 69 [(0, .ref k0), (1, .int x1), (2, .int x2), (3, .int x3)] [] h) ∧ (¬ ((jshr x1 x3) &&& 1) = 0 → (td_kd (ix (h k0 5)) = 5 ∧ (td_J G d mX0_endInside Post 37 [(0, .ref k0), (1, .int x1), (2, .int x2), (3, .int x3)] [.int x3, .ref (ix (h k0 5)), .int x3, .ref (k0 + 1)] h))))))))) : td_J G d mX0_endInside Post 2 [(0, .ref k0), (1, .int x1), (2, .int x2), (3, .int x3)] [] h := by
  refine td_iload_n 3 dX0_endInside_2 rfl ?_
  refine td_aload_n 0 dX0_endInside_3 rfl ?_
  refine gf_X0_38 rfl hk0 dX0_endInside_4 ?_
  obtain ⟨e4, K⟩ := K
  refine gf_X0_88 rfl e4 dX0_endInside_7 ?_
  obtain ⟨Kt, Kf⟩ := K
  refine td_icmp_ge (tgt := 75) dX0_endInside_10 (by decide) (fun q => ?_) (fun q => ?_)
  · have K := Kt q
    exact K
  · have K := Kf q
    refine td_iload_n 1 dX0_endInside_13 rfl ?_
    refine td_iload_n 3 dX0_endInside_14 rfl ?_
    refine td_ishr dX0_endInside_15 ?_
    obtain ⟨Kt, Kf⟩ := K
    refine td_if_eq (tgt := 75) dX0_endInside_16 (by decide) (fun q => ?_) (fun q => ?_)
    · have K := Kt q
      exact K
    · have K := Kf q
      refine td_iload_n 1 dX0_endInside_19 rfl ?_
      refine td_iload_n 3 dX0_endInside_20 rfl ?_
      refine td_ishr dX0_endInside_21 ?_
      refine td_iconst (v := 1) dX0_endInside_22 (by decide) ?_
      refine td_iand dX0_endInside_23 ?_
      obtain ⟨Kt, Kf⟩ := K
      refine td_if_eq (tgt := 69) dX0_endInside_24 (by decide) (fun q => ?_) (fun q => ?_)
      · have K := Kt q
        exact K
      · have K := Kf q
        refine td_aload_n 0 dX0_endInside_27 rfl ?_
        refine gf_X0_12 rfl hk0 dX0_endInside_28 ?_
        refine td_iload_n 3 dX0_endInside_31 rfl ?_
        refine td_aload_n 0 dX0_endInside_32 rfl ?_
        refine gf_X0_38 rfl hk0 dX0_endInside_33 ?_
        obtain ⟨e33, K⟩ := K
        refine td_iload_n 3 dX0_endInside_36 rfl ?_
        exact K
set_option maxRecDepth 20000 in
theorem rX0_endInside_43 {G : td_G} {d : Nat} {Post : td_P} {k0 : Nat} {x1 x2 x3 : Int32} {h : td_H} (hk0 : td_kd k0 = 0) (K : td_kd (ix (h k0 5)) = 5 ∧ (td_J G d mX0_endInside Post 53 [(0, .ref k0), (1, .int x1), (2, .int x2), (3, .int x3)] [.int x3, .ref (ix (h k0 5)), .int (h k0 11), .ref k0] h)) : td_J G d mX0_endInside Post 43 [(0, .ref k0), (1, .int x1), (2, .int x2), (3, .int x3)] [] h := by
  refine td_aload_n 0 dX0_endInside_43 rfl ?_
  refine td_dup dX0_endInside_44 rfl ?_
  refine gf_X0_58 rfl hk0 dX0_endInside_45 ?_
  refine td_aload_n 0 dX0_endInside_48 rfl ?_
  refine gf_X0_38 rfl hk0 dX0_endInside_49 ?_
  obtain ⟨e49, K⟩ := K
  refine td_iload_n 3 dX0_endInside_52 rfl ?_
  exact K
set_option maxRecDepth 20000 in
theorem rX0_endInside_56 {G : td_G} {d : Nat} {Post : td_P} {k0 a0 : Nat} {x1 x2 x3 s1 s2 : Int32} {h : td_H} (hk0 : td_kd k0 = 0) (ha0 : td_kd a0 = 0) (K : td_J G d mX0_endInside Post 66 [(0, .ref k0), (1, .int x1), (2, .int x2), (3, .int x3)] [.int x2, .int x3, .ref (k0 + 7)] (hu h a0 11 (s1 - s2))) : td_J G d mX0_endInside Post 56 [(0, .ref k0), (1, .int x1), (2, .int x2), (3, .int x3)] [.int s2, .int s1, .ref a0] h := by
  refine td_isub dX0_endInside_56 ?_
  refine pf_X0_58 rfl ha0 dX0_endInside_57 ?_
  refine td_aload_n 0 dX0_endInside_60 rfl ?_
  refine gf_X0_21 rfl hk0 dX0_endInside_61 ?_
  refine td_iload_n 3 dX0_endInside_64 rfl ?_
  refine td_iload_n 2 dX0_endInside_65 rfl ?_
  exact K
set_option maxRecDepth 20000 in
theorem rX0_endInside_69 {G : td_G} {d : Nat} {Post : td_P} {k0 : Nat} {x1 x2 x3 : Int32} {h : td_H} (hk0 : td_kd k0 = 0) (K : td_J G d mX0_endInside Post 2 [(0, .ref k0), (1, .int x1), (2, .int x2), (3, .int (x3 + 1))] [] h) : td_J G d mX0_endInside Post 69 [(0, .ref k0), (1, .int x1), (2, .int x2), (3, .int x3)] [] h := by
  refine td_iinc 3 (v := x3 + 1) (lv2 := [(0, .ref k0), (1, .int x1), (2, .int x2), (3, .int (x3 + 1))]) dX0_endInside_69 rfl (congrArg (x3 + ·) (by decide)) (by decide) rfl ?_
  refine td_goto (tgt := 2) dX0_endInside_72 (by decide) ?_
  exact K
set_option maxRecDepth 20000 in
theorem rX0_endInside_75 {G : td_G} {d : Nat} {Post : td_P} {k0 : Nat} {x1 x2 x3 : Int32} {h : td_H} (hk0 : td_kd k0 = 0) (K : Post none h) : td_J G d mX0_endInside Post 75 [(0, .ref k0), (1, .int x1), (2, .int x2), (3, .int x3)] [] h := by
  exact td_return rfl dX0_endInside_75 K
set_option maxRecDepth 20000 in
theorem rX0_stepIn_0 {G : td_G} {d : Nat} {Post : td_P} {k0 : Nat} {x1 x2 : Int32} {h : td_H} (hk0 : td_kd k0 = 0) (K : vp_in x1 2 ∧ (td_J G d mX0_stepIn Post 15 [(0, .ref k0), (1, .int x1), (2, .int x2), (3, .int ((h k0 10) &&& (h (k0 + 14) (ix x1)))), (4, .int 0)] [] h)) : td_J G d mX0_stepIn Post 0 [(0, .ref k0), (1, .int x1), (2, .int x2)] [] h := by
  refine td_aload_n 0 dX0_stepIn_0 rfl ?_
  refine gf_X0_55 rfl hk0 dX0_stepIn_1 ?_
  refine td_aload_n 0 dX0_stepIn_4 rfl ?_
  refine gf_X0_32 rfl hk0 dX0_stepIn_5 ?_
  refine td_iload_n 1 dX0_stepIn_8 rfl ?_
  obtain ⟨e9, K⟩ := K
  refine td_ialdc (j := (ix x1)) (kd_0_4 hk0) (by decide) e9 rfl dX0_stepIn_9 ?_
  refine td_iand dX0_stepIn_10 ?_
  refine td_istore_n (lv2 := [(0, .ref k0), (1, .int x1), (2, .int x2), (3, .int ((h k0 10) &&& (h (k0 + 14) (ix x1))))]) dX0_stepIn_11 (by decide) rfl ?_
  refine td_iconst (v := 0) dX0_stepIn_12 (by decide) ?_
  refine td_istore (lv2 := [(0, .ref k0), (1, .int x1), (2, .int x2), (3, .int ((h k0 10) &&& (h (k0 + 14) (ix x1)))), (4, .int 0)]) dX0_stepIn_13 (by decide) rfl ?_
  exact K
set_option maxRecDepth 20000 in
theorem rX0_stepIn_15 {G : td_G} {d : Nat} {Post : td_P} {k0 : Nat} {x1 x2 x3 x4 : Int32} {h : td_H} (hk0 : td_kd k0 = 0) (K : td_kd (ix (h k0 5)) = 5 ∧ (((h (ix (h k0 5)) 4) ≤ x4 → td_J G d mX0_stepIn Post 88 [(0, .ref k0), (1, .int x1), (2, .int x2), (3, .int x3), (4, .int x4)] [] h) ∧ (¬ (h (ix (h k0 5)) 4) ≤ x4 → ((x3 = 0 → td_J G d mX0_stepIn Post 88 [(0, .ref k0), (1, .int x1), (2, .int x2), (3, .int x3), (4, .int x4)] [] h) ∧ (¬ x3 = 0 → (vp_in x4 12 ∧ ((((jshr x3 (h (k0 + 12) (ix x4))) &&& 1) = 0 → td_J G d mX0_stepIn Post 82 [(0, .ref k0), (1, .int x1), (2, .int x2), (3, .int x3), (4, .int x4), (5, .int (h (k0 + 12) (ix x4)))] [] h) ∧ (¬ ((jshr x3 (h (k0 + 12) (ix x4))) &&& 1) = 0 → td_J G d mX0_stepIn Post 53 [(0, .ref k0), (1, .int x1), (2, .int x2), (3, .int x3), (4, .int x4), (5, .int (h (k0 + 12) (ix x4)))] [.int x1, .int (h (k0 + 12) (ix x4)), .ref k0] h)))))))) : td_J G d mX0_stepIn Post 15 [(0, .ref k0), (1, .int x1), (2, .int x2), (3, .int x3), (4, .int x4)] [] h := by
  refine td_iload 4 dX0_stepIn_15 rfl ?_
  refine td_aload_n 0 dX0_stepIn_17 rfl ?_
  refine gf_X0_38 rfl hk0 dX0_stepIn_18 ?_
  obtain ⟨e18, K⟩ := K
  refine gf_X0_88 rfl e18 dX0_stepIn_21 ?_
  obtain ⟨Kt, Kf⟩ := K
  refine td_icmp_ge (tgt := 88) dX0_stepIn_24 (by decide) (fun q => ?_) (fun q => ?_)
  · have K := Kt q
    exact K
  · have K := Kf q
    refine td_iload_n 3 dX0_stepIn_27 rfl ?_
    obtain ⟨Kt, Kf⟩ := K
    refine td_if_eq (tgt := 88) dX0_stepIn_28 (by decide) (fun q => ?_) (fun q => ?_)
    · have K := Kt q
      exact K
    · have K := Kf q
      refine td_aload_n 0 dX0_stepIn_31 rfl ?_
      refine gf_X0_25 rfl hk0 dX0_stepIn_32 ?_
      refine td_iload 4 dX0_stepIn_35 rfl ?_
      obtain ⟨e37, K⟩ := K
      refine td_ialdc (j := (ix x4)) (kd_0_2 hk0) (by decide) e37 rfl dX0_stepIn_37 ?_
      refine td_istore (lv2 := [(0, .ref k0), (1, .int x1), (2, .int x2), (3, .int x3), (4, .int x4), (5, .int (h (k0 + 12) (ix x4)))]) dX0_stepIn_38 (by decide) rfl ?_
      refine td_iload_n 3 dX0_stepIn_40 rfl ?_
      refine td_iload 5 dX0_stepIn_41 rfl ?_
      refine td_ishr dX0_stepIn_43 ?_
      refine td_iconst (v := 1) dX0_stepIn_44 (by decide) ?_
      refine td_iand dX0_stepIn_45 ?_
      obtain ⟨Kt, Kf⟩ := K
      refine td_if_eq (tgt := 82) dX0_stepIn_46 (by decide) (fun q => ?_) (fun q => ?_)
      · have K := Kt q
        exact K
      · have K := Kf q
        refine td_aload_n 0 dX0_stepIn_49 rfl ?_
        refine td_iload 5 dX0_stepIn_50 rfl ?_
        refine td_iload_n 1 dX0_stepIn_52 rfl ?_
        exact K
set_option maxRecDepth 20000 in
theorem rX0_stepIn_56 {G : td_G} {d : Nat} {Post : td_P} {k0 : Nat} {x1 x2 x3 x4 x5 s0 : Int32} {h : td_H} (hk0 : td_kd k0 = 0) (K : (0 ≤ s0 → td_J G d mX0_stepIn Post 70 [(0, .ref k0), (1, .int x1), (2, .int x2), (3, .int x3), (4, .int x4), (5, .int x5), (6, .int s0)] [.int x2, .int s0, .int x5, .ref k0] h) ∧ (¬ 0 ≤ s0 → (Post none h))) : td_J G d mX0_stepIn Post 56 [(0, .ref k0), (1, .int x1), (2, .int x2), (3, .int x3), (4, .int x4), (5, .int x5)] [.int s0] h := by
  refine td_istore (lv2 := [(0, .ref k0), (1, .int x1), (2, .int x2), (3, .int x3), (4, .int x4), (5, .int x5), (6, .int s0)]) dX0_stepIn_56 (by decide) rfl ?_
  refine td_iload 6 dX0_stepIn_58 rfl ?_
  obtain ⟨Kt, Kf⟩ := K
  refine td_if_ge (tgt := 64) dX0_stepIn_60 (by decide) (fun q => ?_) (fun q => ?_)
  · have K := Kt q
    refine td_aload_n 0 dX0_stepIn_64 rfl ?_
    refine td_iload 5 dX0_stepIn_65 rfl ?_
    refine td_iload 6 dX0_stepIn_67 rfl ?_
    refine td_iload_n 2 dX0_stepIn_69 rfl ?_
    exact K
  · have K := Kf q
    exact td_return rfl dX0_stepIn_63 K
set_option maxRecDepth 20000 in
theorem rX0_stepIn_73 {G : td_G} {d : Nat} {Post : td_P} {k0 : Nat} {x1 x2 x3 x4 x5 x6 : Int32} {h : td_H} (hk0 : td_kd k0 = 0) (K : td_J G d mX0_stepIn Post 82 [(0, .ref k0), (1, .int x1), (2, .int x2), (3, .int (x3 &&& ((jshl 1 x5) ^^^ (-1)))), (4, .int x4), (5, .int x5)] [] h) : td_J G d mX0_stepIn Post 73 [(0, .ref k0), (1, .int x1), (2, .int x2), (3, .int x3), (4, .int x4), (5, .int x5), (6, .int x6)] [] h := by
  refine td_iload_n 3 dX0_stepIn_73 rfl ?_
  refine td_iconst (v := 1) dX0_stepIn_74 (by decide) ?_
  refine td_iload 5 dX0_stepIn_75 rfl ?_
  refine td_ishl dX0_stepIn_77 ?_
  refine td_iconst (v := (-1)) dX0_stepIn_78 (by decide) ?_
  refine td_ixor dX0_stepIn_79 ?_
  refine td_iand dX0_stepIn_80 ?_
  refine td_istore_n (lv2 := [(0, .ref k0), (1, .int x1), (2, .int x2), (3, .int (x3 &&& ((jshl 1 x5) ^^^ (-1)))), (4, .int x4), (5, .int x5), (6, .int x6)]) dX0_stepIn_81 (by decide) rfl ?_
  refine td_drop [0, 1, 2, 3, 4, 5] rfl ?_
  exact K
set_option maxRecDepth 20000 in
theorem rX0_stepIn_82 {G : td_G} {d : Nat} {Post : td_P} {k0 : Nat} {x1 x2 x3 x4 x5 : Int32} {h : td_H} (hk0 : td_kd k0 = 0) (K : td_J G d mX0_stepIn Post 15 [(0, .ref k0), (1, .int x1), (2, .int x2), (3, .int x3), (4, .int (x4 + 1))] [] h) : td_J G d mX0_stepIn Post 82 [(0, .ref k0), (1, .int x1), (2, .int x2), (3, .int x3), (4, .int x4), (5, .int x5)] [] h := by
  refine td_iinc 4 (v := x4 + 1) (lv2 := [(0, .ref k0), (1, .int x1), (2, .int x2), (3, .int x3), (4, .int (x4 + 1)), (5, .int x5)]) dX0_stepIn_82 rfl (congrArg (x4 + ·) (by decide)) (by decide) rfl ?_
  refine td_goto (tgt := 15) dX0_stepIn_85 (by decide) ?_
  refine td_drop [0, 1, 2, 3, 4] rfl ?_
  exact K
set_option maxRecDepth 20000 in
theorem rX0_stepIn_88 {G : td_G} {d : Nat} {Post : td_P} {k0 : Nat} {x1 x2 x3 x4 : Int32} {h : td_H} (hk0 : td_kd k0 = 0) (K : Post none h) : td_J G d mX0_stepIn Post 88 [(0, .ref k0), (1, .int x1), (2, .int x2), (3, .int x3), (4, .int x4)] [] h := by
  exact td_return rfl dX0_stepIn_88 K
set_option maxRecDepth 20000 in
theorem rX0_partFor_0 {G : td_G} {d : Nat} {Post : td_P} {k0 : Nat} {x1 x2 : Int32} {h : td_H} (hk0 : td_kd k0 = 0) (K : ((h k0 12) < 2 → td_J G d mX0_partFor Post 21 [(0, .ref k0), (1, .int x1), (2, .int x2)] [] h) ∧ (¬ (h k0 12) < 2 → (td_kd (ix (h k0 5)) = 5 ∧ (td_J G d mX0_partFor Post 13 [(0, .ref k0), (1, .int x1), (2, .int x2)] [.int x1, .ref (ix (h k0 5))] h)))) : td_J G d mX0_partFor Post 0 [(0, .ref k0), (1, .int x1), (2, .int x2)] [] h := by
  refine td_aload_n 0 dX0_partFor_0 rfl ?_
  refine gf_X0_61 rfl hk0 dX0_partFor_1 ?_
  refine td_iconst (v := 2) dX0_partFor_4 (by decide) ?_
  obtain ⟨Kt, Kf⟩ := K
  refine td_icmp_lt (tgt := 21) dX0_partFor_5 (by decide) (fun q => ?_) (fun q => ?_)
  · have K := Kt q
    exact K
  · have K := Kf q
    refine td_aload_n 0 dX0_partFor_8 rfl ?_
    refine gf_X0_38 rfl hk0 dX0_partFor_9 ?_
    obtain ⟨e9, K⟩ := K
    refine td_iload_n 1 dX0_partFor_12 rfl ?_
    exact K
set_option maxRecDepth 20000 in
theorem rX0_partFor_16 {G : td_G} {d : Nat} {Post : td_P} {k0 : Nat} {x1 x2 s0 : Int32} {h : td_H} (hk0 : td_kd k0 = 0) (K : (s0 = 0 → td_J G d mX0_partFor Post 21 [(0, .ref k0), (1, .int x1), (2, .int x2)] [] h) ∧ (¬ s0 = 0 → (Post (some (.int (-1))) h))) : td_J G d mX0_partFor Post 16 [(0, .ref k0), (1, .int x1), (2, .int x2)] [.int s0] h := by
  obtain ⟨Kt, Kf⟩ := K
  refine td_if_eq (tgt := 21) dX0_partFor_16 (by decide) (fun q => ?_) (fun q => ?_)
  · have K := Kt q
    exact K
  · have K := Kf q
    refine td_iconst (v := (-1)) dX0_partFor_19 (by decide) ?_
    exact td_ireturn rfl dX0_partFor_20 K
set_option maxRecDepth 20000 in
theorem rX0_partFor_21 {G : td_G} {d : Nat} {Post : td_P} {k0 : Nat} {x1 x2 : Int32} {h : td_H} (hk0 : td_kd k0 = 0) (K : td_kd (ix (h k0 5)) = 5 ∧ (td_J G d mX0_partFor Post 26 [(0, .ref k0), (1, .int x1), (2, .int x2)] [.int x1, .ref (ix (h k0 5))] h)) : td_J G d mX0_partFor Post 21 [(0, .ref k0), (1, .int x1), (2, .int x2)] [] h := by
  refine td_aload_n 0 dX0_partFor_21 rfl ?_
  refine gf_X0_38 rfl hk0 dX0_partFor_22 ?_
  obtain ⟨e22, K⟩ := K
  refine td_iload_n 1 dX0_partFor_25 rfl ?_
  exact K
set_option maxRecDepth 20000 in
theorem rX0_partFor_29 {G : td_G} {d : Nat} {Post : td_P} {k0 : Nat} {x1 x2 s0 : Int32} {h : td_H} (hk0 : td_kd k0 = 0) (K : td_kd (ix (h k0 5)) = 5 ∧ (vp_in x1 12 ∧ ((¬ (h (ix (h k0 5) + 4) (ix x1)) = 3 → td_J G d mX0_partFor Post 48 [(0, .ref k0), (1, .int x1), (2, .int x2), (3, .int s0)] [.int 0] h) ∧ ((h (ix (h k0 5) + 4) (ix x1)) = 3 → td_J G d mX0_partFor Post 48 [(0, .ref k0), (1, .int x1), (2, .int x2), (3, .int s0)] [.int 1] h)))) : td_J G d mX0_partFor Post 29 [(0, .ref k0), (1, .int x1), (2, .int x2)] [.int s0] h := by
  refine td_istore_n (lv2 := [(0, .ref k0), (1, .int x1), (2, .int x2), (3, .int s0)]) dX0_partFor_29 (by decide) rfl ?_
  refine td_aload_n 0 dX0_partFor_30 rfl ?_
  refine gf_X0_38 rfl hk0 dX0_partFor_31 ?_
  obtain ⟨e31, K⟩ := K
  refine gf_X0_97 rfl e31 dX0_partFor_34 ?_
  refine td_iload_n 1 dX0_partFor_37 rfl ?_
  obtain ⟨e38, K⟩ := K
  refine td_ialdc (j := (ix x1)) (kd_5_3 e31) (by decide) e38 rfl dX0_partFor_38 ?_
  refine td_iconst (v := 3) dX0_partFor_39 (by decide) ?_
  obtain ⟨Kt, Kf⟩ := K
  refine td_icmp_ne (tgt := 47) dX0_partFor_40 (by decide) (fun q => ?_) (fun q => ?_)
  · have K := Kt q
    refine td_iconst (v := 0) dX0_partFor_47 (by decide) ?_
    exact K
  · have K := Kf q
    refine td_iconst (v := 1) dX0_partFor_43 (by decide) ?_
    refine td_goto (tgt := 48) dX0_partFor_44 (by decide) ?_
    exact K
set_option maxRecDepth 20000 in
theorem rX0_partFor_48 {G : td_G} {d : Nat} {Post : td_P} {k0 : Nat} {x1 x2 x3 s0 : Int32} {h : td_H} (hk0 : td_kd k0 = 0) (K : td_J G d mX0_partFor Post 67 [(0, .ref k0), (1, .int x1), (2, .int x2), (3, .int x3), (4, .int s0), (5, .int (-1)), (6, .int ((h (k0 + 1) 6) - 1)), (7, .int 0)] [] h) : td_J G d mX0_partFor Post 48 [(0, .ref k0), (1, .int x1), (2, .int x2), (3, .int x3)] [.int s0] h := by
  refine td_istore (lv2 := [(0, .ref k0), (1, .int x1), (2, .int x2), (3, .int x3), (4, .int s0)]) dX0_partFor_48 (by decide) rfl ?_
  refine td_iconst (v := (-1)) dX0_partFor_50 (by decide) ?_
  refine td_istore (lv2 := [(0, .ref k0), (1, .int x1), (2, .int x2), (3, .int x3), (4, .int s0), (5, .int (-1))]) dX0_partFor_51 (by decide) rfl ?_
  refine td_aload_n 0 dX0_partFor_53 rfl ?_
  refine gf_X0_12 rfl hk0 dX0_partFor_54 ?_
  refine gf_X0_173 rfl (kd_0_0 hk0) dX0_partFor_57 ?_
  refine td_iconst (v := 1) dX0_partFor_60 (by decide) ?_
  refine td_isub dX0_partFor_61 ?_
  refine td_istore (lv2 := [(0, .ref k0), (1, .int x1), (2, .int x2), (3, .int x3), (4, .int s0), (5, .int (-1)), (6, .int ((h (k0 + 1) 6) - 1))]) dX0_partFor_62 (by decide) rfl ?_
  refine td_iconst (v := 0) dX0_partFor_64 (by decide) ?_
  refine td_istore (lv2 := [(0, .ref k0), (1, .int x1), (2, .int x2), (3, .int x3), (4, .int s0), (5, .int (-1)), (6, .int ((h (k0 + 1) 6) - 1)), (7, .int 0)]) dX0_partFor_65 (by decide) rfl ?_
  exact K
set_option maxRecDepth 20000 in
theorem rX0_partFor_67 {G : td_G} {d : Nat} {Post : td_P} {k0 : Nat} {x1 x2 x3 x4 x5 x6 x7 : Int32} {h : td_H} (hk0 : td_kd k0 = 0) (K : ((h (k0 + 1) 5) ≤ x7 → td_J G d mX0_partFor Post 157 [(0, .ref k0), (1, .int x1), (2, .int x2), (3, .int x3), (4, .int x4), (5, .int x5), (6, .int x6), (7, .int x7)] [] h) ∧ (¬ (h (k0 + 1) 5) ≤ x7 → ((4 ≤ x7 → td_J G d mX0_partFor Post 157 [(0, .ref k0), (1, .int x1), (2, .int x2), (3, .int x3), (4, .int x4), (5, .int x5), (6, .int x6), (7, .int x7)] [] h) ∧ (¬ 4 ≤ x7 → td_J G d mX0_partFor Post 92 [(0, .ref k0), (1, .int x1), (2, .int x2), (3, .int x3), (4, .int x4), (5, .int x5), (6, .int x6), (7, .int x7)] [.int x2, .int x7, .ref (k0 + 1)] h)))) : td_J G d mX0_partFor Post 67 [(0, .ref k0), (1, .int x1), (2, .int x2), (3, .int x3), (4, .int x4), (5, .int x5), (6, .int x6), (7, .int x7)] [] h := by
  refine td_iload 7 dX0_partFor_67 rfl ?_
  refine td_aload_n 0 dX0_partFor_69 rfl ?_
  refine gf_X0_12 rfl hk0 dX0_partFor_70 ?_
  refine gf_X0_176 rfl (kd_0_0 hk0) dX0_partFor_73 ?_
  obtain ⟨Kt, Kf⟩ := K
  refine td_icmp_ge (tgt := 157) dX0_partFor_76 (by decide) (fun q => ?_) (fun q => ?_)
  · have K := Kt q
    exact K
  · have K := Kf q
    refine td_iload 7 dX0_partFor_79 rfl ?_
    refine td_iconst (v := 4) dX0_partFor_81 (by decide) ?_
    obtain ⟨Kt, Kf⟩ := K
    refine td_icmp_ge (tgt := 157) dX0_partFor_82 (by decide) (fun q => ?_) (fun q => ?_)
    · have K := Kt q
      exact K
    · have K := Kf q
      refine td_aload_n 0 dX0_partFor_85 rfl ?_
      refine gf_X0_12 rfl hk0 dX0_partFor_86 ?_
      refine td_iload 7 dX0_partFor_89 rfl ?_
      refine td_iload_n 2 dX0_partFor_91 rfl ?_
      exact K
set_option maxRecDepth 20000 in
theorem rX0_partFor_95 {G : td_G} {d : Nat} {Post : td_P} {k0 : Nat} {x1 x2 x3 x4 x5 x6 x7 s0 : Int32} {h : td_H} (hk0 : td_kd k0 = 0) (K : (s0 ≤ x6 → td_J G d mX0_partFor Post 151 [(0, .ref k0), (1, .int x1), (2, .int x2), (3, .int x3), (4, .int x4), (5, .int x5), (6, .int x6), (7, .int x7), (8, .int s0)] [] h) ∧ (¬ s0 ≤ x6 → (vp_in x7 4 ∧ (((h ((k0 + 1) + 4) (ix x7)) < x3 → td_J G d mX0_partFor Post 151 [(0, .ref k0), (1, .int x1), (2, .int x2), (3, .int x3), (4, .int x4), (5, .int x5), (6, .int x6), (7, .int x7), (8, .int s0)] [] h) ∧ (¬ (h ((k0 + 1) + 4) (ix x7)) < x3 → ((x4 = 0 → td_J G d mX0_partFor Post 143 [(0, .ref k0), (1, .int x1), (2, .int x2), (3, .int x3), (4, .int x4), (5, .int x5), (6, .int x6), (7, .int x7), (8, .int s0)] [] h) ∧ (¬ x4 = 0 → (vp_in x7 4 ∧ ((((h ((k0 + 1) + 3) (ix x7)) &&& ((h k0 7) ^^^ (-1))) = 0 → td_J G d mX0_partFor Post 151 [(0, .ref k0), (1, .int x1), (2, .int x2), (3, .int x3), (4, .int x4), (5, .int x5), (6, .int x6), (7, .int x7), (8, .int s0)] [] h) ∧ (¬ ((h ((k0 + 1) + 3) (ix x7)) &&& ((h k0 7) ^^^ (-1))) = 0 → td_J G d mX0_partFor Post 143 [(0, .ref k0), (1, .int x1), (2, .int x2), (3, .int x3), (4, .int x4), (5, .int x5), (6, .int x6), (7, .int x7), (8, .int s0)] [] h)))))))))) : td_J G d mX0_partFor Post 95 [(0, .ref k0), (1, .int x1), (2, .int x2), (3, .int x3), (4, .int x4), (5, .int x5), (6, .int x6), (7, .int x7)] [.int s0] h := by
  refine td_istore (lv2 := [(0, .ref k0), (1, .int x1), (2, .int x2), (3, .int x3), (4, .int x4), (5, .int x5), (6, .int x6), (7, .int x7), (8, .int s0)]) dX0_partFor_95 (by decide) rfl ?_
  refine td_iload 8 dX0_partFor_97 rfl ?_
  refine td_iload 6 dX0_partFor_99 rfl ?_
  obtain ⟨Kt, Kf⟩ := K
  refine td_icmp_le (tgt := 151) dX0_partFor_101 (by decide) (fun q => ?_) (fun q => ?_)
  · have K := Kt q
    exact K
  · have K := Kf q
    refine td_aload_n 0 dX0_partFor_104 rfl ?_
    refine gf_X0_12 rfl hk0 dX0_partFor_105 ?_
    refine gf_X0_182 rfl (kd_0_0 hk0) dX0_partFor_108 ?_
    refine td_iload 7 dX0_partFor_111 rfl ?_
    obtain ⟨e113, K⟩ := K
    refine td_ialdc (j := (ix x7)) (kd_1_3 (kd_0_0 hk0)) (by decide) e113 rfl dX0_partFor_113 ?_
    refine td_iload_n 3 dX0_partFor_114 rfl ?_
    obtain ⟨Kt, Kf⟩ := K
    refine td_icmp_lt (tgt := 151) dX0_partFor_115 (by decide) (fun q => ?_) (fun q => ?_)
    · have K := Kt q
      exact K
    · have K := Kf q
      refine td_iload 4 dX0_partFor_118 rfl ?_
      obtain ⟨Kt, Kf⟩ := K
      refine td_if_eq (tgt := 143) dX0_partFor_120 (by decide) (fun q => ?_) (fun q => ?_)
      · have K := Kt q
        exact K
      · have K := Kf q
        refine td_aload_n 0 dX0_partFor_123 rfl ?_
        refine gf_X0_12 rfl hk0 dX0_partFor_124 ?_
        refine gf_X0_185 rfl (kd_0_0 hk0) dX0_partFor_127 ?_
        refine td_iload 7 dX0_partFor_130 rfl ?_
        obtain ⟨e132, K⟩ := K
        refine td_ialdc (j := (ix x7)) (kd_1_2 (kd_0_0 hk0)) (by decide) e132 rfl dX0_partFor_132 ?_
        refine td_aload_n 0 dX0_partFor_133 rfl ?_
        refine gf_X0_76 rfl hk0 dX0_partFor_134 ?_
        refine td_iconst (v := (-1)) dX0_partFor_137 (by decide) ?_
        refine td_ixor dX0_partFor_138 ?_
        refine td_iand dX0_partFor_139 ?_
        obtain ⟨Kt, Kf⟩ := K
        refine td_if_eq (tgt := 151) dX0_partFor_140 (by decide) (fun q => ?_) (fun q => ?_)
        · have K := Kt q
          exact K
        · have K := Kf q
          exact K
set_option maxRecDepth 20000 in
theorem rX0_partFor_143 {G : td_G} {d : Nat} {Post : td_P} {k0 : Nat} {x1 x2 x3 x4 x5 x6 x7 x8 : Int32} {h : td_H} (hk0 : td_kd k0 = 0) (K : td_J G d mX0_partFor Post 151 [(0, .ref k0), (1, .int x1), (2, .int x2), (3, .int x3), (4, .int x4), (5, .int x7), (6, .int x8), (7, .int x7), (8, .int x8)] [] h) : td_J G d mX0_partFor Post 143 [(0, .ref k0), (1, .int x1), (2, .int x2), (3, .int x3), (4, .int x4), (5, .int x5), (6, .int x6), (7, .int x7), (8, .int x8)] [] h := by
  refine td_iload 7 dX0_partFor_143 rfl ?_
  refine td_istore (lv2 := [(0, .ref k0), (1, .int x1), (2, .int x2), (3, .int x3), (4, .int x4), (5, .int x7), (6, .int x6), (7, .int x7), (8, .int x8)]) dX0_partFor_145 (by decide) rfl ?_
  refine td_iload 8 dX0_partFor_147 rfl ?_
  refine td_istore (lv2 := [(0, .ref k0), (1, .int x1), (2, .int x2), (3, .int x3), (4, .int x4), (5, .int x7), (6, .int x8), (7, .int x7), (8, .int x8)]) dX0_partFor_149 (by decide) rfl ?_
  exact K
set_option maxRecDepth 20000 in
theorem rX0_partFor_151 {G : td_G} {d : Nat} {Post : td_P} {k0 : Nat} {x1 x2 x3 x4 x5 x6 x7 x8 : Int32} {h : td_H} (hk0 : td_kd k0 = 0) (K : td_J G d mX0_partFor Post 67 [(0, .ref k0), (1, .int x1), (2, .int x2), (3, .int x3), (4, .int x4), (5, .int x5), (6, .int x6), (7, .int (x7 + 1))] [] h) : td_J G d mX0_partFor Post 151 [(0, .ref k0), (1, .int x1), (2, .int x2), (3, .int x3), (4, .int x4), (5, .int x5), (6, .int x6), (7, .int x7), (8, .int x8)] [] h := by
  refine td_iinc 7 (v := x7 + 1) (lv2 := [(0, .ref k0), (1, .int x1), (2, .int x2), (3, .int x3), (4, .int x4), (5, .int x5), (6, .int x6), (7, .int (x7 + 1)), (8, .int x8)]) dX0_partFor_151 rfl (congrArg (x7 + ·) (by decide)) (by decide) rfl ?_
  refine td_goto (tgt := 67) dX0_partFor_154 (by decide) ?_
  refine td_drop [0, 1, 2, 3, 4, 5, 6, 7] rfl ?_
  exact K
set_option maxRecDepth 20000 in
theorem rX0_partFor_157 {G : td_G} {d : Nat} {Post : td_P} {k0 : Nat} {x1 x2 x3 x4 x5 x6 x7 : Int32} {h : td_H} (hk0 : td_kd k0 = 0) (K : Post (some (.int x5)) h) : td_J G d mX0_partFor Post 157 [(0, .ref k0), (1, .int x1), (2, .int x2), (3, .int x3), (4, .int x4), (5, .int x5), (6, .int x6), (7, .int x7)] [] h := by
  refine td_iload 5 dX0_partFor_157 rfl ?_
  exact td_ireturn rfl dX0_partFor_159 K
set_option maxRecDepth 20000 in
theorem rX0_enter_0 {G : td_G} {d : Nat} {Post : td_P} {k0 : Nat} {x1 x2 x3 : Int32} {h : td_H} (hk0 : td_kd k0 = 0) (K : vp_in x2 4 ∧ (td_J G d mX0_enter Post 14 [(0, .ref k0), (1, .int x1), (2, .int x2), (3, .int x3)] [.int (h ((k0 + 1) + 3) (ix x2)), .int x1, .ref (k0 + 7)] h)) : td_J G d mX0_enter Post 0 [(0, .ref k0), (1, .int x1), (2, .int x2), (3, .int x3)] [] h := by
  refine td_aload_n 0 dX0_enter_0 rfl ?_
  refine gf_X0_21 rfl hk0 dX0_enter_1 ?_
  refine td_iload_n 1 dX0_enter_4 rfl ?_
  refine td_aload_n 0 dX0_enter_5 rfl ?_
  refine gf_X0_12 rfl hk0 dX0_enter_6 ?_
  refine gf_X0_185 rfl (kd_0_0 hk0) dX0_enter_9 ?_
  refine td_iload_n 2 dX0_enter_12 rfl ?_
  obtain ⟨e13, K⟩ := K
  refine td_ialdc (j := (ix x2)) (kd_1_2 (kd_0_0 hk0)) (by decide) e13 rfl dX0_enter_13 ?_
  exact K
set_option maxRecDepth 20000 in
theorem rX0_enter_17 {G : td_G} {d : Nat} {Post : td_P} {k0 : Nat} {x1 x2 x3 : Int32} {h : td_H} (hk0 : td_kd k0 = 0) (K : vp_in x1 12 ∧ (vp_in x1 12 ∧ (td_kd (ix ((hu (hu (hu h ((k0 + 7) + 1) (ix x1) x3) ((k0 + 7) + 2) (ix x1) x3) k0 10 (((hu (hu h ((k0 + 7) + 1) (ix x1) x3) ((k0 + 7) + 2) (ix x1) x3) k0 10) &&& ((jshl 1 x1) ^^^ (-1)))) k0 5)) = 5 ∧ (td_J G d mX0_enter Post 62 [(0, .ref k0), (1, .int x1), (2, .int x2), (3, .int x3)] [.int x1, .ref (ix ((hu (hu (hu h ((k0 + 7) + 1) (ix x1) x3) ((k0 + 7) + 2) (ix x1) x3) k0 10 (((hu (hu h ((k0 + 7) + 1) (ix x1) x3) ((k0 + 7) + 2) (ix x1) x3) k0 10) &&& ((jshl 1 x1) ^^^ (-1)))) k0 5)), .int x2, .int x1, .ref (k0 + 1)] (hu (hu (hu h ((k0 + 7) + 1) (ix x1) x3) ((k0 + 7) + 2) (ix x1) x3) k0 10 (((hu (hu h ((k0 + 7) + 1) (ix x1) x3) ((k0 + 7) + 2) (ix x1) x3) k0 10) &&& ((jshl 1 x1) ^^^ (-1)))))))) : td_J G d mX0_enter Post 17 [(0, .ref k0), (1, .int x1), (2, .int x2), (3, .int x3)] [] h := by
  refine td_aload_n 0 dX0_enter_17 rfl ?_
  refine gf_X0_21 rfl hk0 dX0_enter_18 ?_
  refine gf_X0_191 rfl (kd_0_1 hk0) dX0_enter_21 ?_
  refine td_iload_n 1 dX0_enter_24 rfl ?_
  refine td_iload_n 3 dX0_enter_25 rfl ?_
  obtain ⟨e26, K⟩ := K
  refine td_iastc (j := (ix x1)) (kd_2_0 (kd_0_1 hk0)) (by decide) e26 rfl dX0_enter_26 ?_
  refine td_aload_n 0 dX0_enter_27 rfl ?_
  refine gf_X0_21 rfl hk0 dX0_enter_28 ?_
  refine gf_X0_194 rfl (kd_0_1 hk0) dX0_enter_31 ?_
  refine td_iload_n 1 dX0_enter_34 rfl ?_
  refine td_iload_n 3 dX0_enter_35 rfl ?_
  obtain ⟨e36, K⟩ := K
  refine td_iastc (j := (ix x1)) (kd_2_1 (kd_0_1 hk0)) (by decide) e36 rfl dX0_enter_36 ?_
  refine td_aload_n 0 dX0_enter_37 rfl ?_
  refine td_dup dX0_enter_38 rfl ?_
  refine gf_X0_55 rfl hk0 dX0_enter_39 ?_
  refine td_iconst (v := 1) dX0_enter_42 (by decide) ?_
  refine td_iload_n 1 dX0_enter_43 rfl ?_
  refine td_ishl dX0_enter_44 ?_
  refine td_iconst (v := (-1)) dX0_enter_45 (by decide) ?_
  refine td_ixor dX0_enter_46 ?_
  refine td_iand dX0_enter_47 ?_
  refine pf_X0_55 rfl hk0 dX0_enter_48 ?_
  refine td_aload_n 0 dX0_enter_51 rfl ?_
  refine gf_X0_12 rfl hk0 dX0_enter_52 ?_
  refine td_iload_n 1 dX0_enter_55 rfl ?_
  refine td_iload_n 2 dX0_enter_56 rfl ?_
  refine td_aload_n 0 dX0_enter_57 rfl ?_
  refine gf_X0_38 rfl hk0 dX0_enter_58 ?_
  obtain ⟨e58, K⟩ := K
  refine td_iload_n 1 dX0_enter_61 rfl ?_
  exact K
set_option maxRecDepth 20000 in
theorem rX0_enter_68 {G : td_G} {d : Nat} {Post : td_P} {k0 : Nat} {x1 x2 x3 : Int32} {h : td_H} (hk0 : td_kd k0 = 0) (K : td_kd (ix (h k0 5)) = 5 ∧ (td_J G d mX0_enter Post 78 [(0, .ref k0), (1, .int x1), (2, .int x2), (3, .int x3)] [.int x1, .ref (ix (h k0 5)), .int (h k0 11), .ref k0] h)) : td_J G d mX0_enter Post 68 [(0, .ref k0), (1, .int x1), (2, .int x2), (3, .int x3)] [] h := by
  refine td_aload_n 0 dX0_enter_68 rfl ?_
  refine td_dup dX0_enter_69 rfl ?_
  refine gf_X0_58 rfl hk0 dX0_enter_70 ?_
  refine td_aload_n 0 dX0_enter_73 rfl ?_
  refine gf_X0_38 rfl hk0 dX0_enter_74 ?_
  obtain ⟨e74, K⟩ := K
  refine td_iload_n 1 dX0_enter_77 rfl ?_
  exact K
set_option maxRecDepth 20000 in
theorem rX0_enter_81 {G : td_G} {d : Nat} {Post : td_P} {k0 a0 : Nat} {x1 x2 x3 s1 s2 : Int32} {h : td_H} (hk0 : td_kd k0 = 0) (ha0 : td_kd a0 = 0) (K : (¬ ((hu h a0 11 (s1 + s2)) k0 12) = 1 → td_J G d mX0_enter Post 160 [(0, .ref k0), (1, .int x1), (2, .int x2), (3, .int x3)] [] (hu h a0 11 (s1 + s2))) ∧ (((hu h a0 11 (s1 + s2)) k0 12) = 1 → (td_kd (ix ((hu h a0 11 (s1 + s2)) k0 5)) = 5 ∧ (td_J G d mX0_enter Post 98 [(0, .ref k0), (1, .int x1), (2, .int x2), (3, .int x3)] [.int x1, .ref (ix ((hu h a0 11 (s1 + s2)) k0 5))] (hu h a0 11 (s1 + s2)))))) : td_J G d mX0_enter Post 81 [(0, .ref k0), (1, .int x1), (2, .int x2), (3, .int x3)] [.int s2, .int s1, .ref a0] h := by
  refine td_iadd dX0_enter_81 ?_
  refine pf_X0_58 rfl ha0 dX0_enter_82 ?_
  refine td_aload_n 0 dX0_enter_85 rfl ?_
  refine gf_X0_61 rfl hk0 dX0_enter_86 ?_
  refine td_iconst (v := 1) dX0_enter_89 (by decide) ?_
  obtain ⟨Kt, Kf⟩ := K
  refine td_icmp_ne (tgt := 160) dX0_enter_90 (by decide) (fun q => ?_) (fun q => ?_)
  · have K := Kt q
    exact K
  · have K := Kf q
    refine td_aload_n 0 dX0_enter_93 rfl ?_
    refine gf_X0_38 rfl hk0 dX0_enter_94 ?_
    obtain ⟨e94, K⟩ := K
    refine td_iload_n 1 dX0_enter_97 rfl ?_
    exact K
set_option maxRecDepth 20000 in
theorem rX0_enter_101 {G : td_G} {d : Nat} {Post : td_P} {k0 : Nat} {x1 x2 x3 s0 : Int32} {h : td_H} (hk0 : td_kd k0 = 0) (K : (s0 = 0 → td_J G d mX0_enter Post 160 [(0, .ref k0), (1, .int x1), (2, .int x2), (3, .int x3)] [] h) ∧ (¬ s0 = 0 → (td_kd (ix (h k0 5)) = 5 ∧ (vp_in x1 12 ∧ (td_J G d mX0_enter Post 118 [(0, .ref k0), (1, .int x1), (2, .int x2), (3, .int x3)] [.int (h (ix (h k0 5) + 3) (ix x1)), .int x2, .ref (k0 + 1)] h))))) : td_J G d mX0_enter Post 101 [(0, .ref k0), (1, .int x1), (2, .int x2), (3, .int x3)] [.int s0] h := by
  obtain ⟨Kt, Kf⟩ := K
  refine td_if_eq (tgt := 160) dX0_enter_101 (by decide) (fun q => ?_) (fun q => ?_)
  · have K := Kt q
    exact K
  · have K := Kf q
    refine td_aload_n 0 dX0_enter_104 rfl ?_
    refine gf_X0_12 rfl hk0 dX0_enter_105 ?_
    refine td_iload_n 2 dX0_enter_108 rfl ?_
    refine td_aload_n 0 dX0_enter_109 rfl ?_
    refine gf_X0_38 rfl hk0 dX0_enter_110 ?_
    obtain ⟨e110, K⟩ := K
    refine gf_X0_91 rfl e110 dX0_enter_113 ?_
    refine td_iload_n 1 dX0_enter_116 rfl ?_
    obtain ⟨e117, K⟩ := K
    refine td_ialdc (j := (ix x1)) (kd_5_2 e110) (by decide) e117 rfl dX0_enter_117 ?_
    exact K
set_option maxRecDepth 20000 in
theorem rX0_enter_121 {G : td_G} {d : Nat} {Post : td_P} {k0 : Nat} {x1 x2 x3 s0 : Int32} {h : td_H} (hk0 : td_kd k0 = 0) (K : (¬ s0 = (h (k0 + 1) 6) → td_J G d mX0_enter Post 160 [(0, .ref k0), (1, .int x1), (2, .int x2), (3, .int x3)] [] h) ∧ (s0 = (h (k0 + 1) 6) → (td_kd (ix ((hu h (k0 + 7) 5 ((h (k0 + 7) 5) ||| (jshl 1 x1))) k0 5)) = 5 ∧ (td_J G d mX0_enter Post 160 [(0, .ref k0), (1, .int x1), (2, .int x2), (3, .int x3)] [] (hu (hu h (k0 + 7) 5 ((h (k0 + 7) 5) ||| (jshl 1 x1))) k0 13 ((hu h (k0 + 7) 5 ((h (k0 + 7) 5) ||| (jshl 1 x1))) (ix ((hu h (k0 + 7) 5 ((h (k0 + 7) 5) ||| (jshl 1 x1))) k0 5) + 1) 7)))))) : td_J G d mX0_enter Post 121 [(0, .ref k0), (1, .int x1), (2, .int x2), (3, .int x3)] [.int s0] h := by
  refine td_aload_n 0 dX0_enter_121 rfl ?_
  refine gf_X0_12 rfl hk0 dX0_enter_122 ?_
  refine gf_X0_173 rfl (kd_0_0 hk0) dX0_enter_125 ?_
  obtain ⟨Kt, Kf⟩ := K
  refine td_icmp_ne (tgt := 160) dX0_enter_128 (by decide) (fun q => ?_) (fun q => ?_)
  · have K := Kt q
    exact K
  · have K := Kf q
    refine td_aload_n 0 dX0_enter_131 rfl ?_
    refine gf_X0_21 rfl hk0 dX0_enter_132 ?_
    refine td_dup dX0_enter_135 rfl ?_
    refine gf_X0_200 rfl (kd_0_1 hk0) dX0_enter_136 ?_
    refine td_iconst (v := 1) dX0_enter_139 (by decide) ?_
    refine td_iload_n 1 dX0_enter_140 rfl ?_
    refine td_ishl dX0_enter_141 ?_
    refine td_ior dX0_enter_142 ?_
    refine pf_X0_200 rfl (kd_0_1 hk0) dX0_enter_143 ?_
    refine td_aload_n 0 dX0_enter_146 rfl ?_
    refine td_aload_n 0 dX0_enter_147 rfl ?_
    refine gf_X0_38 rfl hk0 dX0_enter_148 ?_
    obtain ⟨e148, K⟩ := K
    refine gf_X0_111 rfl e148 dX0_enter_151 ?_
    refine td_bipush (v := 7) dX0_enter_154 (by decide) ?_
    refine td_ialdc (j := 7) (kd_5_0 e148) (by decide) (by unfold vp_in; decide) (by decide) dX0_enter_156 ?_
    refine pf_X0_64 rfl hk0 dX0_enter_157 ?_
    exact K
set_option maxRecDepth 20000 in
theorem rX0_enter_160 {G : td_G} {d : Nat} {Post : td_P} {k0 : Nat} {x1 x2 x3 : Int32} {h : td_H} (hk0 : td_kd k0 = 0) (K : Post none h) : td_J G d mX0_enter Post 160 [(0, .ref k0), (1, .int x1), (2, .int x2), (3, .int x3)] [] h := by
  exact td_return rfl dX0_enter_160 K
set_option maxRecDepth 20000 in
theorem rX0_passFolded_0 {G : td_G} {d : Nat} {Post : td_P} {k0 : Nat} {x1 : Int32} {h : td_H} (hk0 : td_kd k0 = 0) (K : td_J G d mX0_passFolded Post 19 [(0, .ref k0), (1, .int x1)] [.int x1, .int ((hu (hu h k0 12 0) k0 13 0) (k0 + 1) 8), .ref k0] (hu (hu h k0 12 0) k0 13 0)) : td_J G d mX0_passFolded Post 0 [(0, .ref k0), (1, .int x1)] [] h := by
  refine td_aload_n 0 dX0_passFolded_0 rfl ?_
  refine td_iconst (v := 0) dX0_passFolded_1 (by decide) ?_
  refine pf_X0_61 rfl hk0 dX0_passFolded_2 ?_
  refine td_aload_n 0 dX0_passFolded_5 rfl ?_
  refine td_iconst (v := 0) dX0_passFolded_6 (by decide) ?_
  refine pf_X0_64 rfl hk0 dX0_passFolded_7 ?_
  refine td_aload_n 0 dX0_passFolded_10 rfl ?_
  refine td_aload_n 0 dX0_passFolded_11 rfl ?_
  refine gf_X0_12 rfl hk0 dX0_passFolded_12 ?_
  refine gf_X0_127 rfl (kd_0_0 hk0) dX0_passFolded_15 ?_
  refine td_iload_n 1 dX0_passFolded_18 rfl ?_
  exact K
set_option maxRecDepth 20000 in
theorem rX0_passFolded_22 {G : td_G} {d : Nat} {Post : td_P} {k0 : Nat} {x1 : Int32} {h : td_H} (hk0 : td_kd k0 = 0) (K : td_J G d mX0_passFolded Post 25 [(0, .ref k0), (1, .int x1)] [.int x1, .int 0, .ref k0] h) : td_J G d mX0_passFolded Post 22 [(0, .ref k0), (1, .int x1)] [] h := by
  refine td_aload_n 0 dX0_passFolded_22 rfl ?_
  refine td_iconst (v := 0) dX0_passFolded_23 (by decide) ?_
  refine td_iload_n 1 dX0_passFolded_24 rfl ?_
  exact K
set_option maxRecDepth 20000 in
theorem rX0_passFolded_28 {G : td_G} {d : Nat} {Post : td_P} {k0 : Nat} {x1 : Int32} {h : td_H} (hk0 : td_kd k0 = 0) (K : td_J G d mX0_passFolded Post 31 [(0, .ref k0), (1, .int x1)] [.int x1, .int 1, .ref k0] h) : td_J G d mX0_passFolded Post 28 [(0, .ref k0), (1, .int x1)] [] h := by
  refine td_aload_n 0 dX0_passFolded_28 rfl ?_
  refine td_iconst (v := 1) dX0_passFolded_29 (by decide) ?_
  refine td_iload_n 1 dX0_passFolded_30 rfl ?_
  exact K
set_option maxRecDepth 20000 in
theorem rX0_passFolded_34 {G : td_G} {d : Nat} {Post : td_P} {k0 : Nat} {x1 : Int32} {h : td_H} (hk0 : td_kd k0 = 0) (K : Post none h) : td_J G d mX0_passFolded Post 34 [(0, .ref k0), (1, .int x1)] [] h := by
  exact td_return rfl dX0_passFolded_34 K
set_option maxRecDepth 20000 in
theorem rX0_walkThrough_0 {G : td_G} {d : Nat} {Post : td_P} {k0 : Nat} {x1 x2 : Int32} {h : td_H} (hk0 : td_kd k0 = 0) (K : vp_in x1 2 ∧ (td_J G d mX0_walkThrough Post 18 [(0, .ref k0), (1, .int x1), (2, .int x2), (3, .int ((h k0 10) &&& (h (k0 + 14) (ix x1)))), (4, .int 0), (5, .int 0)] [] h)) : td_J G d mX0_walkThrough Post 0 [(0, .ref k0), (1, .int x1), (2, .int x2)] [] h := by
  refine td_aload_n 0 dX0_walkThrough_0 rfl ?_
  refine gf_X0_55 rfl hk0 dX0_walkThrough_1 ?_
  refine td_aload_n 0 dX0_walkThrough_4 rfl ?_
  refine gf_X0_32 rfl hk0 dX0_walkThrough_5 ?_
  refine td_iload_n 1 dX0_walkThrough_8 rfl ?_
  obtain ⟨e9, K⟩ := K
  refine td_ialdc (j := (ix x1)) (kd_0_4 hk0) (by decide) e9 rfl dX0_walkThrough_9 ?_
  refine td_iand dX0_walkThrough_10 ?_
  refine td_istore_n (lv2 := [(0, .ref k0), (1, .int x1), (2, .int x2), (3, .int ((h k0 10) &&& (h (k0 + 14) (ix x1))))]) dX0_walkThrough_11 (by decide) rfl ?_
  refine td_iconst (v := 0) dX0_walkThrough_12 (by decide) ?_
  refine td_istore (lv2 := [(0, .ref k0), (1, .int x1), (2, .int x2), (3, .int ((h k0 10) &&& (h (k0 + 14) (ix x1)))), (4, .int 0)]) dX0_walkThrough_13 (by decide) rfl ?_
  refine td_iconst (v := 0) dX0_walkThrough_15 (by decide) ?_
  refine td_istore (lv2 := [(0, .ref k0), (1, .int x1), (2, .int x2), (3, .int ((h k0 10) &&& (h (k0 + 14) (ix x1)))), (4, .int 0), (5, .int 0)]) dX0_walkThrough_16 (by decide) rfl ?_
  exact K
set_option maxRecDepth 20000 in
theorem rX0_walkThrough_18 {G : td_G} {d : Nat} {Post : td_P} {k0 : Nat} {x1 x2 x3 x4 x5 : Int32} {h : td_H} (hk0 : td_kd k0 = 0) (K : td_kd (ix (h k0 5)) = 5 ∧ (((h (ix (h k0 5)) 4) ≤ x5 → td_J G d mX0_walkThrough Post 112 [(0, .ref k0), (1, .int x1), (2, .int x2), (3, .int x3), (4, .int x4), (5, .int x5)] [] h) ∧ (¬ (h (ix (h k0 5)) 4) ≤ x5 → ((2 ≤ x4 → td_J G d mX0_walkThrough Post 112 [(0, .ref k0), (1, .int x1), (2, .int x2), (3, .int x3), (4, .int x4), (5, .int x5)] [] h) ∧ (¬ 2 ≤ x4 → ((x3 = 0 → td_J G d mX0_walkThrough Post 112 [(0, .ref k0), (1, .int x1), (2, .int x2), (3, .int x3), (4, .int x4), (5, .int x5)] [] h) ∧ (¬ x3 = 0 → (vp_in x5 12 ∧ ((((jshr x3 (h (k0 + 12) (ix x5))) &&& 1) = 0 → td_J G d mX0_walkThrough Post 106 [(0, .ref k0), (1, .int x1), (2, .int x2), (3, .int x3), (4, .int x4), (5, .int x5), (6, .int (h (k0 + 12) (ix x5)))] [] h) ∧ (¬ ((jshr x3 (h (k0 + 12) (ix x5))) &&& 1) = 0 → (vp_in (h (k0 + 12) (ix x5)) 12 ∧ (td_J G d mX0_walkThrough Post 100 [(0, .ref k0), (1, .int x1), (2, .int x2), (3, .int (x3 &&& ((jshl 1 (h (k0 + 12) (ix x5))) ^^^ (-1)))), (4, .int x4), (5, .int x5), (6, .int (h (k0 + 12) (ix x5)))] [.int x2, .int (h (k0 + 12) (ix x5)), .ref (k0 + 7)] (hu (hu h k0 10 ((h k0 10) &&& ((jshl 1 (h (k0 + 12) (ix x5))) ^^^ (-1)))) ((k0 + 7) + 2) (ix (h (k0 + 12) (ix x5))) x2))))))))))))) : td_J G d mX0_walkThrough Post 18 [(0, .ref k0), (1, .int x1), (2, .int x2), (3, .int x3), (4, .int x4), (5, .int x5)] [] h := by
  refine td_iload 5 dX0_walkThrough_18 rfl ?_
  refine td_aload_n 0 dX0_walkThrough_20 rfl ?_
  refine gf_X0_38 rfl hk0 dX0_walkThrough_21 ?_
  obtain ⟨e21, K⟩ := K
  refine gf_X0_88 rfl e21 dX0_walkThrough_24 ?_
  obtain ⟨Kt, Kf⟩ := K
  refine td_icmp_ge (tgt := 112) dX0_walkThrough_27 (by decide) (fun q => ?_) (fun q => ?_)
  · have K := Kt q
    exact K
  · have K := Kf q
    refine td_iload 4 dX0_walkThrough_30 rfl ?_
    refine td_iconst (v := 2) dX0_walkThrough_32 (by decide) ?_
    obtain ⟨Kt, Kf⟩ := K
    refine td_icmp_ge (tgt := 112) dX0_walkThrough_33 (by decide) (fun q => ?_) (fun q => ?_)
    · have K := Kt q
      exact K
    · have K := Kf q
      refine td_iload_n 3 dX0_walkThrough_36 rfl ?_
      obtain ⟨Kt, Kf⟩ := K
      refine td_if_eq (tgt := 112) dX0_walkThrough_37 (by decide) (fun q => ?_) (fun q => ?_)
      · have K := Kt q
        exact K
      · have K := Kf q
        refine td_aload_n 0 dX0_walkThrough_40 rfl ?_
        refine gf_X0_25 rfl hk0 dX0_walkThrough_41 ?_
        refine td_iload 5 dX0_walkThrough_44 rfl ?_
        obtain ⟨e46, K⟩ := K
        refine td_ialdc (j := (ix x5)) (kd_0_2 hk0) (by decide) e46 rfl dX0_walkThrough_46 ?_
        refine td_istore (lv2 := [(0, .ref k0), (1, .int x1), (2, .int x2), (3, .int x3), (4, .int x4), (5, .int x5), (6, .int (h (k0 + 12) (ix x5)))]) dX0_walkThrough_47 (by decide) rfl ?_
        refine td_iload_n 3 dX0_walkThrough_49 rfl ?_
        refine td_iload 6 dX0_walkThrough_50 rfl ?_
        refine td_ishr dX0_walkThrough_52 ?_
        refine td_iconst (v := 1) dX0_walkThrough_53 (by decide) ?_
        refine td_iand dX0_walkThrough_54 ?_
        obtain ⟨Kt, Kf⟩ := K
        refine td_if_eq (tgt := 106) dX0_walkThrough_55 (by decide) (fun q => ?_) (fun q => ?_)
        · have K := Kt q
          exact K
        · have K := Kf q
          refine td_iload_n 3 dX0_walkThrough_58 rfl ?_
          refine td_iconst (v := 1) dX0_walkThrough_59 (by decide) ?_
          refine td_iload 6 dX0_walkThrough_60 rfl ?_
          refine td_ishl dX0_walkThrough_62 ?_
          refine td_iconst (v := (-1)) dX0_walkThrough_63 (by decide) ?_
          refine td_ixor dX0_walkThrough_64 ?_
          refine td_iand dX0_walkThrough_65 ?_
          refine td_istore_n (lv2 := [(0, .ref k0), (1, .int x1), (2, .int x2), (3, .int (x3 &&& ((jshl 1 (h (k0 + 12) (ix x5))) ^^^ (-1)))), (4, .int x4), (5, .int x5), (6, .int (h (k0 + 12) (ix x5)))]) dX0_walkThrough_66 (by decide) rfl ?_
          refine td_aload_n 0 dX0_walkThrough_67 rfl ?_
          refine td_dup dX0_walkThrough_68 rfl ?_
          refine gf_X0_55 rfl hk0 dX0_walkThrough_69 ?_
          refine td_iconst (v := 1) dX0_walkThrough_72 (by decide) ?_
          refine td_iload 6 dX0_walkThrough_73 rfl ?_
          refine td_ishl dX0_walkThrough_75 ?_
          refine td_iconst (v := (-1)) dX0_walkThrough_76 (by decide) ?_
          refine td_ixor dX0_walkThrough_77 ?_
          refine td_iand dX0_walkThrough_78 ?_
          refine pf_X0_55 rfl hk0 dX0_walkThrough_79 ?_
          refine td_aload_n 0 dX0_walkThrough_82 rfl ?_
          refine gf_X0_21 rfl hk0 dX0_walkThrough_83 ?_
          refine gf_X0_194 rfl (kd_0_1 hk0) dX0_walkThrough_86 ?_
          refine td_iload 6 dX0_walkThrough_89 rfl ?_
          refine td_iload_n 2 dX0_walkThrough_91 rfl ?_
          obtain ⟨e92, K⟩ := K
          refine td_iastc (j := (ix (h (k0 + 12) (ix x5)))) (kd_2_1 (kd_0_1 hk0)) (by decide) e92 rfl dX0_walkThrough_92 ?_
          refine td_aload_n 0 dX0_walkThrough_93 rfl ?_
          refine gf_X0_21 rfl hk0 dX0_walkThrough_94 ?_
          refine td_iload 6 dX0_walkThrough_97 rfl ?_
          refine td_iload_n 2 dX0_walkThrough_99 rfl ?_
          exact K
set_option maxRecDepth 20000 in
theorem rX0_walkThrough_103 {G : td_G} {d : Nat} {Post : td_P} {k0 : Nat} {x1 x2 x3 x4 x5 x6 : Int32} {h : td_H} (hk0 : td_kd k0 = 0) (K : td_J G d mX0_walkThrough Post 106 [(0, .ref k0), (1, .int x1), (2, .int x2), (3, .int x3), (4, .int (x4 + 1)), (5, .int x5), (6, .int x6)] [] h) : td_J G d mX0_walkThrough Post 103 [(0, .ref k0), (1, .int x1), (2, .int x2), (3, .int x3), (4, .int x4), (5, .int x5), (6, .int x6)] [] h := by
  refine td_iinc 4 (v := x4 + 1) (lv2 := [(0, .ref k0), (1, .int x1), (2, .int x2), (3, .int x3), (4, .int (x4 + 1)), (5, .int x5), (6, .int x6)]) dX0_walkThrough_103 rfl (congrArg (x4 + ·) (by decide)) (by decide) rfl ?_
  exact K
set_option maxRecDepth 20000 in
theorem rX0_walkThrough_106 {G : td_G} {d : Nat} {Post : td_P} {k0 : Nat} {x1 x2 x3 x4 x5 x6 : Int32} {h : td_H} (hk0 : td_kd k0 = 0) (K : td_J G d mX0_walkThrough Post 18 [(0, .ref k0), (1, .int x1), (2, .int x2), (3, .int x3), (4, .int x4), (5, .int (x5 + 1))] [] h) : td_J G d mX0_walkThrough Post 106 [(0, .ref k0), (1, .int x1), (2, .int x2), (3, .int x3), (4, .int x4), (5, .int x5), (6, .int x6)] [] h := by
  refine td_iinc 5 (v := x5 + 1) (lv2 := [(0, .ref k0), (1, .int x1), (2, .int x2), (3, .int x3), (4, .int x4), (5, .int (x5 + 1)), (6, .int x6)]) dX0_walkThrough_106 rfl (congrArg (x5 + ·) (by decide)) (by decide) rfl ?_
  refine td_goto (tgt := 18) dX0_walkThrough_109 (by decide) ?_
  refine td_drop [0, 1, 2, 3, 4, 5] rfl ?_
  exact K
set_option maxRecDepth 20000 in
theorem rX0_walkThrough_112 {G : td_G} {d : Nat} {Post : td_P} {k0 : Nat} {x1 x2 x3 x4 x5 : Int32} {h : td_H} (hk0 : td_kd k0 = 0) (K : Post none h) : td_J G d mX0_walkThrough Post 112 [(0, .ref k0), (1, .int x1), (2, .int x2), (3, .int x3), (4, .int x4), (5, .int x5)] [] h := by
  exact td_return rfl dX0_walkThrough_112 K
set_option maxRecDepth 20000 in
theorem rX8_forget_0 {G : td_G} {d : Nat} {Post : td_P} {h : td_H} (K : Post none (hu (hu (hu (hu h 43 7 0) 43 8 0) 43 9 0) 69 4 0)) : td_J G d mX8_forget Post 0 [(0, .ref 43)] [] h := by
  refine td_aload_n 0 dX8_forget_0 rfl ?_
  refine td_iconst (v := 0) dX8_forget_1 (by decide) ?_
  refine pf_X8_45 rfl kp_43 dX8_forget_2 ?_
  refine td_aload_n 0 dX8_forget_5 rfl ?_
  refine td_iconst (v := 0) dX8_forget_6 (by decide) ?_
  refine pf_X8_49 rfl kp_43 (by decide) dX8_forget_7 ?_
  refine td_aload_n 0 dX8_forget_10 rfl ?_
  refine td_iconst (v := 0) dX8_forget_11 (by decide) ?_
  refine pf_X8_53 rfl kp_43 (by decide) dX8_forget_12 ?_
  refine td_aload_n 0 dX8_forget_15 rfl ?_
  refine gf_X8_28 rfl kp_43 dX8_forget_16 ?_
  refine td_iconst (v := 0) dX8_forget_19 (by decide) ?_
  refine pf_X8_56 rfl kp_69 dX8_forget_20 ?_
  exact td_return rfl dX8_forget_23 K
set_option maxRecDepth 20000 in
theorem rX8_leastMotor_0 {G : td_G} {d : Nat} {Post : td_P} {k1 : Nat} {x2 : Int32} {h : td_H} (hk1 : td_kd k1 = 5) (K : td_J G d mX8_leastMotor Post 2 [(0, .ref 43), (1, .ref k1), (2, .int x2), (3, .int 0)] [] h) : td_J G d mX8_leastMotor Post 0 [(0, .ref 43), (1, .ref k1), (2, .int x2)] [] h := by
  refine td_iconst (v := 0) dX8_leastMotor_0 (by decide) ?_
  refine td_istore_n (lv2 := [(0, .ref 43), (1, .ref k1), (2, .int x2), (3, .int 0)]) dX8_leastMotor_1 (by decide) rfl ?_
  exact K
set_option maxRecDepth 20000 in
theorem rX8_leastMotor_2 {G : td_G} {d : Nat} {Post : td_P} {k1 : Nat} {x2 x3 : Int32} {h : td_H} (hk1 : td_kd k1 = 5) (K : (21 ≤ x3 → (Post (some (.int (-4))) h)) ∧ (¬ 21 ≤ x3 → ((x3 < (h 43 7) → td_J G d mX8_leastMotor Post 92 [(0, .ref 43), (1, .ref k1), (2, .int x2), (3, .int x3)] [] h) ∧ (¬ x3 < (h 43 7) → td_J G d mX8_leastMotor Post 21 [(0, .ref 43), (1, .ref k1), (2, .int x2), (3, .int x3)] [.ref k1, .ref 44] h)))) : td_J G d mX8_leastMotor Post 2 [(0, .ref 43), (1, .ref k1), (2, .int x2), (3, .int x3)] [] h := by
  refine td_iload_n 3 dX8_leastMotor_2 rfl ?_
  refine td_bipush (v := 21) dX8_leastMotor_3 (by decide) ?_
  obtain ⟨Kt, Kf⟩ := K
  refine td_icmp_ge (tgt := 110) dX8_leastMotor_5 (by decide) (fun q => ?_) (fun q => ?_)
  · have K := Kt q
    refine td_bipush (v := (-4)) dX8_leastMotor_110 (by decide) ?_
    exact td_ireturn rfl dX8_leastMotor_112 K
  · have K := Kf q
    refine td_iload_n 3 dX8_leastMotor_8 rfl ?_
    refine td_aload_n 0 dX8_leastMotor_9 rfl ?_
    refine gf_X8_45 rfl kp_43 dX8_leastMotor_10 ?_
    obtain ⟨Kt, Kf⟩ := K
    refine td_icmp_lt (tgt := 92) dX8_leastMotor_13 (by decide) (fun q => ?_) (fun q => ?_)
    · have K := Kt q
      exact K
    · have K := Kf q
      refine td_aload_n 0 dX8_leastMotor_16 rfl ?_
      refine gf_X8_12 rfl kp_43 dX8_leastMotor_17 ?_
      refine td_aload_n 1 dX8_leastMotor_20 rfl ?_
      exact K
set_option maxRecDepth 20000 in
theorem rX8_leastMotor_24 {G : td_G} {d : Nat} {Post : td_P} {k1 : Nat} {x2 x3 : Int32} {h : td_H} (hk1 : td_kd k1 = 5) (K : td_J G d mX8_leastMotor Post 46 [(0, .ref 43), (1, .ref k1), (2, .int x2), (3, .int x3)] [.ref 44, .ref 44, .ref 49] (hu h 45 3 x3)) : td_J G d mX8_leastMotor Post 24 [(0, .ref 43), (1, .ref k1), (2, .int x2), (3, .int x3)] [] h := by
  refine td_aload_n 0 dX8_leastMotor_24 rfl ?_
  refine gf_X8_12 rfl kp_43 dX8_leastMotor_25 ?_
  refine gf_X8_63 rfl kp_44 dX8_leastMotor_28 ?_
  refine td_iconst (v := 3) dX8_leastMotor_31 (by decide) ?_
  refine td_iload_n 3 dX8_leastMotor_32 rfl ?_
  refine td_iastc (j := 3) kp_45 (by decide) (by unfold vp_in; decide) (by decide) dX8_leastMotor_33 ?_
  refine td_aload_n 0 dX8_leastMotor_34 rfl ?_
  refine gf_X8_21 rfl kp_43 dX8_leastMotor_35 ?_
  refine td_aload_n 0 dX8_leastMotor_38 rfl ?_
  refine gf_X8_12 rfl kp_43 dX8_leastMotor_39 ?_
  refine td_aload_n 0 dX8_leastMotor_42 rfl ?_
  refine gf_X8_12 rfl kp_43 dX8_leastMotor_43 ?_
  exact K
set_option maxRecDepth 20000 in
theorem rX8_leastMotor_52 {G : td_G} {d : Nat} {Post : td_P} {k1 : Nat} {x2 x3 : Int32} {h : td_H} (hk1 : td_kd k1 = 5) (K : td_J G d mX8_leastMotor Post 59 [(0, .ref 43), (1, .ref k1), (2, .int x2), (3, .int x3)] [.int 1, .int 119, .ref 49] h) : td_J G d mX8_leastMotor Post 52 [(0, .ref 43), (1, .ref k1), (2, .int x2), (3, .int x3)] [] h := by
  refine td_aload_n 0 dX8_leastMotor_52 rfl ?_
  refine gf_X8_21 rfl kp_43 dX8_leastMotor_53 ?_
  refine td_bipush (v := 119) dX8_leastMotor_56 (by decide) ?_
  refine td_iconst (v := 1) dX8_leastMotor_58 (by decide) ?_
  exact K
set_option maxRecDepth 20000 in
theorem rX8_leastMotor_62 {G : td_G} {d : Nat} {Post : td_P} {k1 : Nat} {x2 x3 : Int32} {h : td_H} (hk1 : td_kd k1 = 5) (K : td_J G d mX8_leastMotor Post 81 [(0, .ref 43), (1, .ref k1), (2, .int x2), (3, .int x3)] [.int (h 44 4), .ref 56, .int x3, .ref 73] h) : td_J G d mX8_leastMotor Post 62 [(0, .ref 43), (1, .ref k1), (2, .int x2), (3, .int x3)] [] h := by
  refine td_aload_n 0 dX8_leastMotor_62 rfl ?_
  refine gf_X8_32 rfl kp_43 dX8_leastMotor_63 ?_
  refine td_iload_n 3 dX8_leastMotor_66 rfl ?_
  refine td_aload_n 0 dX8_leastMotor_67 rfl ?_
  refine gf_X8_21 rfl kp_43 dX8_leastMotor_68 ?_
  refine gf_X8_78 rfl kp_49 dX8_leastMotor_71 ?_
  refine td_aload_n 0 dX8_leastMotor_74 rfl ?_
  refine gf_X8_12 rfl kp_43 dX8_leastMotor_75 ?_
  refine gf_X8_82 rfl kp_44 dX8_leastMotor_78 ?_
  exact K
set_option maxRecDepth 20000 in
theorem rX8_leastMotor_84 {G : td_G} {d : Nat} {Post : td_P} {k1 a0 na0 : Nat} {x2 x3 s1 s2 : Int32} {h : td_H} (hk1 : td_kd k1 = 5) (ha0 : td_kd a0 = 100 + na0) (ga0 : na0 ≠ 899) (K : vp_in s1 na0 ∧ (td_J G d mX8_leastMotor Post 92 [(0, .ref 43), (1, .ref k1), (2, .int x2), (3, .int x3)] [] (hu (hu h a0 (ix s1) s2) 43 7 (x3 + 1)))) : td_J G d mX8_leastMotor Post 84 [(0, .ref 43), (1, .ref k1), (2, .int x2), (3, .int x3)] [.int s2, .int s1, .ref a0] h := by
  obtain ⟨e84, K⟩ := K
  refine td_iastc (j := (ix s1)) ha0 ga0 e84 rfl dX8_leastMotor_84 ?_
  refine td_aload_n 0 dX8_leastMotor_85 rfl ?_
  refine td_iload_n 3 dX8_leastMotor_86 rfl ?_
  refine td_iconst (v := 1) dX8_leastMotor_87 (by decide) ?_
  refine td_iadd dX8_leastMotor_88 ?_
  refine pf_X8_45 rfl kp_43 dX8_leastMotor_89 ?_
  exact K
set_option maxRecDepth 20000 in
theorem rX8_leastMotor_92 {G : td_G} {d : Nat} {Post : td_P} {k1 : Nat} {x2 x3 : Int32} {h : td_H} (hk1 : td_kd k1 = 5) (K : vp_in x3 21 ∧ ((x2 < (h 73 (ix x3)) → td_J G d mX8_leastMotor Post 2 [(0, .ref 43), (1, .ref k1), (2, .int x2), (3, .int (x3 + 1))] [] h) ∧ (¬ x2 < (h 73 (ix x3)) → (Post (some (.int x3)) h)))) : td_J G d mX8_leastMotor Post 92 [(0, .ref 43), (1, .ref k1), (2, .int x2), (3, .int x3)] [] h := by
  refine td_aload_n 0 dX8_leastMotor_92 rfl ?_
  refine gf_X8_32 rfl kp_43 dX8_leastMotor_93 ?_
  refine td_iload_n 3 dX8_leastMotor_96 rfl ?_
  obtain ⟨e97, K⟩ := K
  refine td_ialdc (j := (ix x3)) kp_73 (by decide) e97 rfl dX8_leastMotor_97 ?_
  refine td_iload_n 2 dX8_leastMotor_98 rfl ?_
  obtain ⟨Kt, Kf⟩ := K
  refine td_icmp_gt (tgt := 104) dX8_leastMotor_99 (by decide) (fun q => ?_) (fun q => ?_)
  · have K := Kt q
    refine td_iinc 3 (v := x3 + 1) (lv2 := [(0, .ref 43), (1, .ref k1), (2, .int x2), (3, .int (x3 + 1))]) dX8_leastMotor_104 rfl (congrArg (x3 + ·) (by decide)) (by decide) rfl ?_
    refine td_goto (tgt := 2) dX8_leastMotor_107 (by decide) ?_
    exact K
  · have K := Kf q
    refine td_iload_n 3 dX8_leastMotor_102 rfl ?_
    exact td_ireturn rfl dX8_leastMotor_103 K
set_option maxRecDepth 20000 in
theorem rX8_leavesOf_0 {G : td_G} {d : Nat} {Post : td_P} {x0 : Int32} {h : td_H} (K : Post (some (.int (3 + (x0 / 9)))) h) : td_J G d mX8_leavesOf Post 0 [(0, .int x0)] [] h := by
  refine td_iconst (v := 3) dX8_leavesOf_0 (by decide) ?_
  refine td_iload_n 0 dX8_leavesOf_1 rfl ?_
  refine td_bipush (v := 9) dX8_leavesOf_2 (by decide) ?_
  refine td_idiv dX8_leavesOf_4 (by decide) ?_
  refine td_iadd dX8_leavesOf_5 ?_
  exact td_ireturn rfl dX8_leavesOf_6 K
set_option maxRecDepth 20000 in
theorem rX8_openingOf_0 {G : td_G} {d : Nat} {Post : td_P} {x0 : Int32} {h : td_H} (K : Post (some (.int (1 + (jrem (x0 / 3) 3)))) h) : td_J G d mX8_openingOf Post 0 [(0, .int x0)] [] h := by
  refine td_iconst (v := 1) dX8_openingOf_0 (by decide) ?_
  refine td_iload_n 0 dX8_openingOf_1 rfl ?_
  refine td_iconst (v := 3) dX8_openingOf_2 (by decide) ?_
  refine td_idiv dX8_openingOf_3 (by decide) ?_
  refine td_iconst (v := 3) dX8_openingOf_4 (by decide) ?_
  refine td_irem dX8_openingOf_5 (by decide) ?_
  refine td_iadd dX8_openingOf_6 ?_
  exact td_ireturn rfl dX8_openingOf_7 K
set_option maxRecDepth 20000 in
theorem rX8_governorOf_0 {G : td_G} {d : Nat} {Post : td_P} {x0 : Int32} {h : td_H} (K : Post (some (.int (1 + (jrem x0 3)))) h) : td_J G d mX8_governorOf Post 0 [(0, .int x0)] [] h := by
  refine td_iconst (v := 1) dX8_governorOf_0 (by decide) ?_
  refine td_iload_n 0 dX8_governorOf_1 rfl ?_
  refine td_iconst (v := 3) dX8_governorOf_2 (by decide) ?_
  refine td_irem dX8_governorOf_3 (by decide) ?_
  refine td_iadd dX8_governorOf_4 ?_
  exact td_ireturn rfl dX8_governorOf_5 K
set_option maxRecDepth 20000 in
theorem rX8_lossOf_0 {G : td_G} {d : Nat} {Post : td_P} {x1 : Int32} {h : td_H} (K : td_J G d mX8_lossOf Post 3 [(0, .ref 43), (1, .int x1)] [.int 18, .int x1] h) : td_J G d mX8_lossOf Post 0 [(0, .ref 43), (1, .int x1)] [] h := by
  refine td_iload_n 1 dX8_lossOf_0 rfl ?_
  refine td_bipush (v := 18) dX8_lossOf_1 (by decide) ?_
  exact K
set_option maxRecDepth 20000 in
theorem rX8_lossOf_6 {G : td_G} {d : Nat} {Post : td_P} {x1 s0 : Int32} {h : td_H} (K : (s0 = 0 → td_J G d mX8_lossOf Post 19 [(0, .ref 43), (1, .int x1)] [.int 0] h) ∧ (¬ s0 = 0 → (vp_in x1 18 ∧ (td_J G d mX8_lossOf Post 19 [(0, .ref 43), (1, .int x1)] [.int (h 75 (ix x1))] h)))) : td_J G d mX8_lossOf Post 6 [(0, .ref 43), (1, .int x1)] [.int s0] h := by
  obtain ⟨Kt, Kf⟩ := K
  refine td_if_eq (tgt := 18) dX8_lossOf_6 (by decide) (fun q => ?_) (fun q => ?_)
  · have K := Kt q
    refine td_iconst (v := 0) dX8_lossOf_18 (by decide) ?_
    exact K
  · have K := Kf q
    refine td_aload_n 0 dX8_lossOf_9 rfl ?_
    refine gf_X8_39 rfl kp_43 dX8_lossOf_10 ?_
    refine td_iload_n 1 dX8_lossOf_13 rfl ?_
    obtain ⟨e14, K⟩ := K
    refine td_ialdc (j := (ix x1)) kp_75 (by decide) e14 rfl dX8_lossOf_14 ?_
    refine td_goto (tgt := 19) dX8_lossOf_15 (by decide) ?_
    exact K
set_option maxRecDepth 20000 in
theorem rX8_lossOf_19 {G : td_G} {d : Nat} {Post : td_P} {x1 s0 : Int32} {h : td_H} (K : Post (some (.int s0)) h) : td_J G d mX8_lossOf Post 19 [(0, .ref 43), (1, .int x1)] [.int s0] h := by
  exact td_ireturn rfl dX8_lossOf_19 K
set_option maxRecDepth 20000 in
theorem rX8_warmestDoor_0 {G : td_G} {d : Nat} {Post : td_P} {x1 : Int32} {h : td_H} (K : td_J G d mX8_warmestDoor Post 4 [(0, .ref 43), (1, .int x1), (2, .int (-1)), (3, .int 0)] [] h) : td_J G d mX8_warmestDoor Post 0 [(0, .ref 43), (1, .int x1)] [] h := by
  refine td_iconst (v := (-1)) dX8_warmestDoor_0 (by decide) ?_
  refine td_istore_n (lv2 := [(0, .ref 43), (1, .int x1), (2, .int (-1))]) dX8_warmestDoor_1 (by decide) rfl ?_
  refine td_iconst (v := 0) dX8_warmestDoor_2 (by decide) ?_
  refine td_istore_n (lv2 := [(0, .ref 43), (1, .int x1), (2, .int (-1)), (3, .int 0)]) dX8_warmestDoor_3 (by decide) rfl ?_
  exact K
set_option maxRecDepth 20000 in
theorem rX8_warmestDoor_4 {G : td_G} {d : Nat} {Post : td_P} {x1 x2 x3 : Int32} {h : td_H} (K : (18 ≤ x3 → (Post (some (.int x2)) h)) ∧ (¬ 18 ≤ x3 → (vp_in x3 18 ∧ ((x1 < (h 74 (ix x3)) → td_J G d mX8_warmestDoor Post 41 [(0, .ref 43), (1, .int x1), (2, .int x2), (3, .int x3)] [] h) ∧ (¬ x1 < (h 74 (ix x3)) → ((x2 < 0 → td_J G d mX8_warmestDoor Post 39 [(0, .ref 43), (1, .int x1), (2, .int x2), (3, .int x3)] [] h) ∧ (¬ x2 < 0 → (vp_in x3 18 ∧ (vp_in x2 18 ∧ (((h 75 (ix x2)) ≤ (h 75 (ix x3)) → td_J G d mX8_warmestDoor Post 41 [(0, .ref 43), (1, .int x1), (2, .int x2), (3, .int x3)] [] h) ∧ (¬ (h 75 (ix x2)) ≤ (h 75 (ix x3)) → td_J G d mX8_warmestDoor Post 39 [(0, .ref 43), (1, .int x1), (2, .int x2), (3, .int x3)] [] h))))))))))) : td_J G d mX8_warmestDoor Post 4 [(0, .ref 43), (1, .int x1), (2, .int x2), (3, .int x3)] [] h := by
  refine td_iload_n 3 dX8_warmestDoor_4 rfl ?_
  refine td_bipush (v := 18) dX8_warmestDoor_5 (by decide) ?_
  obtain ⟨Kt, Kf⟩ := K
  refine td_icmp_ge (tgt := 47) dX8_warmestDoor_7 (by decide) (fun q => ?_) (fun q => ?_)
  · have K := Kt q
    refine td_iload_n 2 dX8_warmestDoor_47 rfl ?_
    exact td_ireturn rfl dX8_warmestDoor_48 K
  · have K := Kf q
    refine td_aload_n 0 dX8_warmestDoor_10 rfl ?_
    refine gf_X8_36 rfl kp_43 dX8_warmestDoor_11 ?_
    refine td_iload_n 3 dX8_warmestDoor_14 rfl ?_
    obtain ⟨e15, K⟩ := K
    refine td_ialdc (j := (ix x3)) kp_74 (by decide) e15 rfl dX8_warmestDoor_15 ?_
    refine td_iload_n 1 dX8_warmestDoor_16 rfl ?_
    obtain ⟨Kt, Kf⟩ := K
    refine td_icmp_gt (tgt := 41) dX8_warmestDoor_17 (by decide) (fun q => ?_) (fun q => ?_)
    · have K := Kt q
      exact K
    · have K := Kf q
      refine td_iload_n 2 dX8_warmestDoor_20 rfl ?_
      obtain ⟨Kt, Kf⟩ := K
      refine td_if_lt (tgt := 39) dX8_warmestDoor_21 (by decide) (fun q => ?_) (fun q => ?_)
      · have K := Kt q
        exact K
      · have K := Kf q
        refine td_aload_n 0 dX8_warmestDoor_24 rfl ?_
        refine gf_X8_39 rfl kp_43 dX8_warmestDoor_25 ?_
        refine td_iload_n 3 dX8_warmestDoor_28 rfl ?_
        obtain ⟨e29, K⟩ := K
        refine td_ialdc (j := (ix x3)) kp_75 (by decide) e29 rfl dX8_warmestDoor_29 ?_
        refine td_aload_n 0 dX8_warmestDoor_30 rfl ?_
        refine gf_X8_39 rfl kp_43 dX8_warmestDoor_31 ?_
        refine td_iload_n 2 dX8_warmestDoor_34 rfl ?_
        obtain ⟨e35, K⟩ := K
        refine td_ialdc (j := (ix x2)) kp_75 (by decide) e35 rfl dX8_warmestDoor_35 ?_
        obtain ⟨Kt, Kf⟩ := K
        refine td_icmp_ge (tgt := 41) dX8_warmestDoor_36 (by decide) (fun q => ?_) (fun q => ?_)
        · have K := Kt q
          exact K
        · have K := Kf q
          exact K
set_option maxRecDepth 20000 in
theorem rX8_warmestDoor_39 {G : td_G} {d : Nat} {Post : td_P} {x1 x2 x3 : Int32} {h : td_H} (K : td_J G d mX8_warmestDoor Post 41 [(0, .ref 43), (1, .int x1), (2, .int x3), (3, .int x3)] [] h) : td_J G d mX8_warmestDoor Post 39 [(0, .ref 43), (1, .int x1), (2, .int x2), (3, .int x3)] [] h := by
  refine td_iload_n 3 dX8_warmestDoor_39 rfl ?_
  refine td_istore_n (lv2 := [(0, .ref 43), (1, .int x1), (2, .int x3), (3, .int x3)]) dX8_warmestDoor_40 (by decide) rfl ?_
  exact K
set_option maxRecDepth 20000 in
theorem rX8_warmestDoor_41 {G : td_G} {d : Nat} {Post : td_P} {x1 x2 x3 : Int32} {h : td_H} (K : td_J G d mX8_warmestDoor Post 4 [(0, .ref 43), (1, .int x1), (2, .int x2), (3, .int (x3 + 1))] [] h) : td_J G d mX8_warmestDoor Post 41 [(0, .ref 43), (1, .int x1), (2, .int x2), (3, .int x3)] [] h := by
  refine td_iinc 3 (v := x3 + 1) (lv2 := [(0, .ref 43), (1, .int x1), (2, .int x2), (3, .int (x3 + 1))]) dX8_warmestDoor_41 rfl (congrArg (x3 + ·) (by decide)) (by decide) rfl ?_
  refine td_goto (tgt := 4) dX8_warmestDoor_44 (by decide) ?_
  exact K
set_option maxRecDepth 20000 in
theorem rX8_findDoors_0 {G : td_G} {d : Nat} {Post : td_P} {k1 : Nat} {h : td_H} (hk1 : td_kd k1 = 5) (K : ((h 43 8) = 0 → td_J G d mX8_findDoors Post 13 [(0, .ref 43), (1, .ref k1)] [.ref k1, .ref 44] h) ∧ (¬ (h 43 8) = 0 → (Post none h))) : td_J G d mX8_findDoors Post 0 [(0, .ref 43), (1, .ref k1)] [] h := by
  refine td_aload_n 0 dX8_findDoors_0 rfl ?_
  refine gf_X8_49 rfl kp_43 dX8_findDoors_1 ?_
  obtain ⟨Kt, Kf⟩ := K
  refine td_if_eq (tgt := 8) dX8_findDoors_4 (by decide) (fun q => ?_) (fun q => ?_)
  · have K := Kt q
    refine td_aload_n 0 dX8_findDoors_8 rfl ?_
    refine gf_X8_12 rfl kp_43 dX8_findDoors_9 ?_
    refine td_aload_n 1 dX8_findDoors_12 rfl ?_
    exact K
  · have K := Kf q
    exact td_return rfl dX8_findDoors_7 K
set_option maxRecDepth 20000 in
theorem rX8_findDoors_16 {G : td_G} {d : Nat} {Post : td_P} {k1 : Nat} {h : td_H} (hk1 : td_kd k1 = 5) (K : td_J G d mX8_findDoors Post 18 [(0, .ref 43), (1, .ref k1), (2, .int 0)] [] h) : td_J G d mX8_findDoors Post 16 [(0, .ref 43), (1, .ref k1)] [] h := by
  refine td_iconst (v := 0) dX8_findDoors_16 (by decide) ?_
  refine td_istore_n (lv2 := [(0, .ref 43), (1, .ref k1), (2, .int 0)]) dX8_findDoors_17 (by decide) rfl ?_
  exact K
set_option maxRecDepth 20000 in
theorem rX8_findDoors_18 {G : td_G} {d : Nat} {Post : td_P} {k1 : Nat} {x2 : Int32} {h : td_H} (hk1 : td_kd k1 = 5) (K : (18 ≤ x2 → (Post none (hu h 43 8 1))) ∧ (¬ 18 ≤ x2 → td_J G d mX8_findDoors Post 33 [(0, .ref 43), (1, .ref k1), (2, .int x2)] [.int x2, .int 0, .ref 45] h)) : td_J G d mX8_findDoors Post 18 [(0, .ref 43), (1, .ref k1), (2, .int x2)] [] h := by
  refine td_iload_n 2 dX8_findDoors_18 rfl ?_
  refine td_bipush (v := 18) dX8_findDoors_19 (by decide) ?_
  obtain ⟨Kt, Kf⟩ := K
  refine td_icmp_ge (tgt := 136) dX8_findDoors_21 (by decide) (fun q => ?_) (fun q => ?_)
  · have K := Kt q
    refine td_aload_n 0 dX8_findDoors_136 rfl ?_
    refine td_iconst (v := 1) dX8_findDoors_137 (by decide) ?_
    refine pf_X8_49 rfl kp_43 (by decide) dX8_findDoors_138 ?_
    exact td_return rfl dX8_findDoors_141 K
  · have K := Kf q
    refine td_aload_n 0 dX8_findDoors_24 rfl ?_
    refine gf_X8_12 rfl kp_43 dX8_findDoors_25 ?_
    refine gf_X8_63 rfl kp_44 dX8_findDoors_28 ?_
    refine td_iconst (v := 0) dX8_findDoors_31 (by decide) ?_
    refine td_iload_n 2 dX8_findDoors_32 rfl ?_
    exact K
set_option maxRecDepth 20000 in
theorem rX8_findDoors_36 {G : td_G} {d : Nat} {Post : td_P} {k1 a0 na0 : Nat} {x2 s1 s2 : Int32} {h : td_H} (hk1 : td_kd k1 = 5) (ha0 : td_kd a0 = 100 + na0) (ga0 : na0 ≠ 899) (K : vp_in s1 na0 ∧ (td_J G d mX8_findDoors Post 46 [(0, .ref 43), (1, .ref k1), (2, .int x2)] [.int x2, .int 1, .ref 45] (hu h a0 (ix s1) s2))) : td_J G d mX8_findDoors Post 36 [(0, .ref 43), (1, .ref k1), (2, .int x2)] [.int s2, .int s1, .ref a0] h := by
  obtain ⟨e36, K⟩ := K
  refine td_iastc (j := (ix s1)) ha0 ga0 e36 rfl dX8_findDoors_36 ?_
  refine td_aload_n 0 dX8_findDoors_37 rfl ?_
  refine gf_X8_12 rfl kp_43 dX8_findDoors_38 ?_
  refine gf_X8_63 rfl kp_44 dX8_findDoors_41 ?_
  refine td_iconst (v := 1) dX8_findDoors_44 (by decide) ?_
  refine td_iload_n 2 dX8_findDoors_45 rfl ?_
  exact K
set_option maxRecDepth 20000 in
theorem rX8_findDoors_49 {G : td_G} {d : Nat} {Post : td_P} {k1 a0 na0 : Nat} {x2 s1 s2 : Int32} {h : td_H} (hk1 : td_kd k1 = 5) (ha0 : td_kd a0 = 100 + na0) (ga0 : na0 ≠ 899) (K : vp_in s1 na0 ∧ (td_J G d mX8_findDoors Post 59 [(0, .ref 43), (1, .ref k1), (2, .int x2)] [.int x2, .int 5, .ref 45] (hu h a0 (ix s1) s2))) : td_J G d mX8_findDoors Post 49 [(0, .ref 43), (1, .ref k1), (2, .int x2)] [.int s2, .int s1, .ref a0] h := by
  obtain ⟨e49, K⟩ := K
  refine td_iastc (j := (ix s1)) ha0 ga0 e49 rfl dX8_findDoors_49 ?_
  refine td_aload_n 0 dX8_findDoors_50 rfl ?_
  refine gf_X8_12 rfl kp_43 dX8_findDoors_51 ?_
  refine gf_X8_63 rfl kp_44 dX8_findDoors_54 ?_
  refine td_iconst (v := 5) dX8_findDoors_57 (by decide) ?_
  refine td_iload_n 2 dX8_findDoors_58 rfl ?_
  exact K
set_option maxRecDepth 20000 in
theorem rX8_findDoors_62 {G : td_G} {d : Nat} {Post : td_P} {k1 a0 na0 : Nat} {x2 s1 s2 : Int32} {h : td_H} (hk1 : td_kd k1 = 5) (ha0 : td_kd a0 = 100 + na0) (ga0 : na0 ≠ 899) (K : vp_in s1 na0 ∧ (td_J G d mX8_findDoors Post 75 [(0, .ref 43), (1, .ref k1), (2, .int x2)] [.ref 44, .ref 44, .ref 49] (hu h a0 (ix s1) s2))) : td_J G d mX8_findDoors Post 62 [(0, .ref 43), (1, .ref k1), (2, .int x2)] [.int s2, .int s1, .ref a0] h := by
  obtain ⟨e62, K⟩ := K
  refine td_iastc (j := (ix s1)) ha0 ga0 e62 rfl dX8_findDoors_62 ?_
  refine td_aload_n 0 dX8_findDoors_63 rfl ?_
  refine gf_X8_21 rfl kp_43 dX8_findDoors_64 ?_
  refine td_aload_n 0 dX8_findDoors_67 rfl ?_
  refine gf_X8_12 rfl kp_43 dX8_findDoors_68 ?_
  refine td_aload_n 0 dX8_findDoors_71 rfl ?_
  refine gf_X8_12 rfl kp_43 dX8_findDoors_72 ?_
  exact K
set_option maxRecDepth 20000 in
theorem rX8_findDoors_81 {G : td_G} {d : Nat} {Post : td_P} {k1 : Nat} {x2 : Int32} {h : td_H} (hk1 : td_kd k1 = 5) (K : td_J G d mX8_findDoors Post 88 [(0, .ref 43), (1, .ref k1), (2, .int x2)] [.int 0, .int 119, .ref 49] h) : td_J G d mX8_findDoors Post 81 [(0, .ref 43), (1, .ref k1), (2, .int x2)] [] h := by
  refine td_aload_n 0 dX8_findDoors_81 rfl ?_
  refine gf_X8_21 rfl kp_43 dX8_findDoors_82 ?_
  refine td_bipush (v := 119) dX8_findDoors_85 (by decide) ?_
  refine td_iconst (v := 0) dX8_findDoors_87 (by decide) ?_
  exact K
set_option maxRecDepth 20000 in
theorem rX8_findDoors_91 {G : td_G} {d : Nat} {Post : td_P} {k1 : Nat} {x2 : Int32} {h : td_H} (hk1 : td_kd k1 = 5) (K : td_J G d mX8_findDoors Post 110 [(0, .ref 43), (1, .ref k1), (2, .int x2)] [.int (h 44 4), .ref 56, .int x2, .ref 74] h) : td_J G d mX8_findDoors Post 91 [(0, .ref 43), (1, .ref k1), (2, .int x2)] [] h := by
  refine td_aload_n 0 dX8_findDoors_91 rfl ?_
  refine gf_X8_36 rfl kp_43 dX8_findDoors_92 ?_
  refine td_iload_n 2 dX8_findDoors_95 rfl ?_
  refine td_aload_n 0 dX8_findDoors_96 rfl ?_
  refine gf_X8_21 rfl kp_43 dX8_findDoors_97 ?_
  refine gf_X8_78 rfl kp_49 dX8_findDoors_100 ?_
  refine td_aload_n 0 dX8_findDoors_103 rfl ?_
  refine gf_X8_12 rfl kp_43 dX8_findDoors_104 ?_
  refine gf_X8_82 rfl kp_44 dX8_findDoors_107 ?_
  exact K
set_option maxRecDepth 20000 in
theorem rX8_findDoors_113 {G : td_G} {d : Nat} {Post : td_P} {k1 a0 na0 : Nat} {x2 s1 s2 : Int32} {h : td_H} (hk1 : td_kd k1 = 5) (ha0 : td_kd a0 = 100 + na0) (ga0 : na0 ≠ 899) (K : vp_in s1 na0 ∧ (vp_in x2 18 ∧ (td_J G d mX8_findDoors Post 18 [(0, .ref 43), (1, .ref k1), (2, .int (x2 + 1))] [] (hu (hu h a0 (ix s1) s2) 75 (ix x2) ((hu h a0 (ix s1) s2) 50 11))))) : td_J G d mX8_findDoors Post 113 [(0, .ref 43), (1, .ref k1), (2, .int x2)] [.int s2, .int s1, .ref a0] h := by
  obtain ⟨e113, K⟩ := K
  refine td_iastc (j := (ix s1)) ha0 ga0 e113 rfl dX8_findDoors_113 ?_
  refine td_aload_n 0 dX8_findDoors_114 rfl ?_
  refine gf_X8_39 rfl kp_43 dX8_findDoors_115 ?_
  refine td_iload_n 2 dX8_findDoors_118 rfl ?_
  refine td_aload_n 0 dX8_findDoors_119 rfl ?_
  refine gf_X8_21 rfl kp_43 dX8_findDoors_120 ?_
  refine gf_X8_104 rfl kp_49 dX8_findDoors_123 ?_
  refine gf_X8_108 rfl kp_50 dX8_findDoors_126 ?_
  obtain ⟨e129, K⟩ := K
  refine td_iastc (j := (ix x2)) kp_75 (by decide) e129 rfl dX8_findDoors_129 ?_
  refine td_iinc 2 (v := x2 + 1) (lv2 := [(0, .ref 43), (1, .ref k1), (2, .int (x2 + 1))]) dX8_findDoors_130 rfl (congrArg (x2 + ·) (by decide)) (by decide) rfl ?_
  refine td_goto (tgt := 18) dX8_findDoors_133 (by decide) ?_
  exact K
set_option maxRecDepth 20000 in
theorem rX8_lossWithout_0 {G : td_G} {d : Nat} {Post : td_P} {k1 : Nat} {x2 : Int32} {h : td_H} (hk1 : td_kd k1 = 5) (K : td_J G d mX8_lossWithout Post 6 [(0, .ref 43), (1, .ref k1), (2, .int x2)] [.ref k1, .ref k1, .ref 49] h) : td_J G d mX8_lossWithout Post 0 [(0, .ref 43), (1, .ref k1), (2, .int x2)] [] h := by
  refine td_aload_n 0 dX8_lossWithout_0 rfl ?_
  refine gf_X8_21 rfl kp_43 dX8_lossWithout_1 ?_
  refine td_aload_n 1 dX8_lossWithout_4 rfl ?_
  refine td_aload_n 1 dX8_lossWithout_5 rfl ?_
  exact K
set_option maxRecDepth 20000 in
theorem rX8_lossWithout_9 {G : td_G} {d : Nat} {Post : td_P} {k1 a0 a1 : Nat} {x2 s2 : Int32} {h : td_H} (hk1 : td_kd k1 = 5) (ha0 : td_kd a0 = 0) (ha1 : td_kd a1 = 5) (K : td_J G d mX8_lossWithout Post 15 [(0, .ref 43), (1, .ref k1), (2, .int x2)] [.int (s2 &&& ((jshl 1 x2) ^^^ (-1))), .ref a1, .ref a0] h) : td_J G d mX8_lossWithout Post 9 [(0, .ref 43), (1, .ref k1), (2, .int x2)] [.int s2, .ref a1, .ref a0] h := by
  refine td_iconst (v := 1) dX8_lossWithout_9 (by decide) ?_
  refine td_iload_n 2 dX8_lossWithout_10 rfl ?_
  refine td_ishl dX8_lossWithout_11 ?_
  refine td_iconst (v := (-1)) dX8_lossWithout_12 (by decide) ?_
  refine td_ixor dX8_lossWithout_13 ?_
  refine td_iand dX8_lossWithout_14 ?_
  exact K
set_option maxRecDepth 20000 in
theorem rX8_lossWithout_18 {G : td_G} {d : Nat} {Post : td_P} {k1 : Nat} {x2 : Int32} {h : td_H} (hk1 : td_kd k1 = 5) (K : td_J G d mX8_lossWithout Post 25 [(0, .ref 43), (1, .ref k1), (2, .int x2)] [.int 0, .int 119, .ref 49] h) : td_J G d mX8_lossWithout Post 18 [(0, .ref 43), (1, .ref k1), (2, .int x2)] [] h := by
  refine td_aload_n 0 dX8_lossWithout_18 rfl ?_
  refine gf_X8_21 rfl kp_43 dX8_lossWithout_19 ?_
  refine td_bipush (v := 119) dX8_lossWithout_22 (by decide) ?_
  refine td_iconst (v := 0) dX8_lossWithout_24 (by decide) ?_
  exact K
set_option maxRecDepth 20000 in
theorem rX8_lossWithout_28 {G : td_G} {d : Nat} {Post : td_P} {k1 : Nat} {x2 : Int32} {h : td_H} (hk1 : td_kd k1 = 5) (K : Post (some (.int (h 50 11))) h) : td_J G d mX8_lossWithout Post 28 [(0, .ref 43), (1, .ref k1), (2, .int x2)] [] h := by
  refine td_aload_n 0 dX8_lossWithout_28 rfl ?_
  refine gf_X8_21 rfl kp_43 dX8_lossWithout_29 ?_
  refine gf_X8_104 rfl kp_49 dX8_lossWithout_32 ?_
  refine gf_X8_108 rfl kp_50 dX8_lossWithout_35 ?_
  exact td_ireturn rfl dX8_lossWithout_38 K
set_option maxRecDepth 20000 in
theorem rX8_findEnds_0 {G : td_G} {d : Nat} {Post : td_P} {k1 : Nat} {h : td_H} (hk1 : td_kd k1 = 5) (K : ((h 43 9) = 0 → td_J G d mX8_findEnds Post 13 [(0, .ref 43), (1, .ref k1)] [.ref k1, .ref 44] h) ∧ (¬ (h 43 9) = 0 → (Post none h))) : td_J G d mX8_findEnds Post 0 [(0, .ref 43), (1, .ref k1)] [] h := by
  refine td_aload_n 0 dX8_findEnds_0 rfl ?_
  refine gf_X8_53 rfl kp_43 dX8_findEnds_1 ?_
  obtain ⟨Kt, Kf⟩ := K
  refine td_if_eq (tgt := 8) dX8_findEnds_4 (by decide) (fun q => ?_) (fun q => ?_)
  · have K := Kt q
    refine td_aload_n 0 dX8_findEnds_8 rfl ?_
    refine gf_X8_12 rfl kp_43 dX8_findEnds_9 ?_
    refine td_aload_n 1 dX8_findEnds_12 rfl ?_
    exact K
  · have K := Kf q
    exact td_return rfl dX8_findEnds_7 K
set_option maxRecDepth 20000 in
theorem rX8_findEnds_16 {G : td_G} {d : Nat} {Post : td_P} {k1 : Nat} {h : td_H} (hk1 : td_kd k1 = 5) (K : td_J G d mX8_findEnds Post 18 [(0, .ref 43), (1, .ref k1), (2, .int 0)] [] h) : td_J G d mX8_findEnds Post 16 [(0, .ref 43), (1, .ref k1)] [] h := by
  refine td_iconst (v := 0) dX8_findEnds_16 (by decide) ?_
  refine td_istore_n (lv2 := [(0, .ref 43), (1, .ref k1), (2, .int 0)]) dX8_findEnds_17 (by decide) rfl ?_
  exact K
set_option maxRecDepth 20000 in
theorem rX8_findEnds_18 {G : td_G} {d : Nat} {Post : td_P} {k1 : Nat} {x2 : Int32} {h : td_H} (hk1 : td_kd k1 = 5) (K : (189 ≤ x2 → (Post none (hu h 43 9 1))) ∧ (¬ 189 ≤ x2 → td_J G d mX8_findEnds Post 65 [(0, .ref 43), (1, .ref k1), (2, .int x2)] [.ref 44, .ref 44, .ref 49] (hu (hu h 45 3 (x2 / 9)) 45 4 (1 + (jrem x2 9))))) : td_J G d mX8_findEnds Post 18 [(0, .ref 43), (1, .ref k1), (2, .int x2)] [] h := by
  refine td_iload_n 2 dX8_findEnds_18 rfl ?_
  refine td_sipush (v := 189) dX8_findEnds_19 (by decide) ?_
  obtain ⟨Kt, Kf⟩ := K
  refine td_icmp_ge (tgt := 129) dX8_findEnds_22 (by decide) (fun q => ?_) (fun q => ?_)
  · have K := Kt q
    refine td_aload_n 0 dX8_findEnds_129 rfl ?_
    refine td_iconst (v := 1) dX8_findEnds_130 (by decide) ?_
    refine pf_X8_53 rfl kp_43 (by decide) dX8_findEnds_131 ?_
    exact td_return rfl dX8_findEnds_134 K
  · have K := Kf q
    refine td_aload_n 0 dX8_findEnds_25 rfl ?_
    refine gf_X8_12 rfl kp_43 dX8_findEnds_26 ?_
    refine gf_X8_63 rfl kp_44 dX8_findEnds_29 ?_
    refine td_iconst (v := 3) dX8_findEnds_32 (by decide) ?_
    refine td_iload_n 2 dX8_findEnds_33 rfl ?_
    refine td_bipush (v := 9) dX8_findEnds_34 (by decide) ?_
    refine td_idiv dX8_findEnds_36 (by decide) ?_
    refine td_iastc (j := 3) kp_45 (by decide) (by unfold vp_in; decide) (by decide) dX8_findEnds_37 ?_
    refine td_aload_n 0 dX8_findEnds_38 rfl ?_
    refine gf_X8_12 rfl kp_43 dX8_findEnds_39 ?_
    refine gf_X8_63 rfl kp_44 dX8_findEnds_42 ?_
    refine td_iconst (v := 4) dX8_findEnds_45 (by decide) ?_
    refine td_iconst (v := 1) dX8_findEnds_46 (by decide) ?_
    refine td_iload_n 2 dX8_findEnds_47 rfl ?_
    refine td_bipush (v := 9) dX8_findEnds_48 (by decide) ?_
    refine td_irem dX8_findEnds_50 (by decide) ?_
    refine td_iadd dX8_findEnds_51 ?_
    refine td_iastc (j := 4) kp_45 (by decide) (by unfold vp_in; decide) (by decide) dX8_findEnds_52 ?_
    refine td_aload_n 0 dX8_findEnds_53 rfl ?_
    refine gf_X8_21 rfl kp_43 dX8_findEnds_54 ?_
    refine td_aload_n 0 dX8_findEnds_57 rfl ?_
    refine gf_X8_12 rfl kp_43 dX8_findEnds_58 ?_
    refine td_aload_n 0 dX8_findEnds_61 rfl ?_
    refine gf_X8_12 rfl kp_43 dX8_findEnds_62 ?_
    exact K
set_option maxRecDepth 20000 in
theorem rX8_findEnds_71 {G : td_G} {d : Nat} {Post : td_P} {k1 : Nat} {x2 : Int32} {h : td_H} (hk1 : td_kd k1 = 5) (K : td_J G d mX8_findEnds Post 78 [(0, .ref 43), (1, .ref k1), (2, .int x2)] [.int 1, .int 119, .ref 49] h) : td_J G d mX8_findEnds Post 71 [(0, .ref 43), (1, .ref k1), (2, .int x2)] [] h := by
  refine td_aload_n 0 dX8_findEnds_71 rfl ?_
  refine gf_X8_21 rfl kp_43 dX8_findEnds_72 ?_
  refine td_bipush (v := 119) dX8_findEnds_75 (by decide) ?_
  refine td_iconst (v := 1) dX8_findEnds_77 (by decide) ?_
  exact K
set_option maxRecDepth 20000 in
theorem rX8_findEnds_81 {G : td_G} {d : Nat} {Post : td_P} {k1 : Nat} {x2 : Int32} {h : td_H} (hk1 : td_kd k1 = 5) (K : td_J G d mX8_findEnds Post 83 [(0, .ref 43), (1, .ref k1), (2, .int x2), (3, .int 0)] [] h) : td_J G d mX8_findEnds Post 81 [(0, .ref 43), (1, .ref k1), (2, .int x2)] [] h := by
  refine td_iconst (v := 0) dX8_findEnds_81 (by decide) ?_
  refine td_istore_n (lv2 := [(0, .ref 43), (1, .ref k1), (2, .int x2), (3, .int 0)]) dX8_findEnds_82 (by decide) rfl ?_
  exact K
set_option maxRecDepth 20000 in
theorem rX8_findEnds_83 {G : td_G} {d : Nat} {Post : td_P} {k1 : Nat} {x2 x3 : Int32} {h : td_H} (hk1 : td_kd k1 = 5) (K : ((h 44 4) ≤ x3 → td_J G d mX8_findEnds Post 18 [(0, .ref 43), (1, .ref k1), (2, .int (x2 + 1))] [] h) ∧ (¬ (h 44 4) ≤ x3 → (vp_in x3 12 ∧ (vp_in ((x2 * 12) + x3) 2268 ∧ (td_J G d mX8_findEnds Post 83 [(0, .ref 43), (1, .ref k1), (2, .int x2), (3, .int (x3 + 1))] [] (hu h 76 (ix ((x2 * 12) + x3)) (h 59 (ix x3)))))))) : td_J G d mX8_findEnds Post 83 [(0, .ref 43), (1, .ref k1), (2, .int x2), (3, .int x3)] [] h := by
  refine td_iload_n 3 dX8_findEnds_83 rfl ?_
  refine td_aload_n 0 dX8_findEnds_84 rfl ?_
  refine gf_X8_12 rfl kp_43 dX8_findEnds_85 ?_
  refine gf_X8_82 rfl kp_44 dX8_findEnds_88 ?_
  obtain ⟨Kt, Kf⟩ := K
  refine td_icmp_ge (tgt := 123) dX8_findEnds_91 (by decide) (fun q => ?_) (fun q => ?_)
  · have K := Kt q
    refine td_iinc 2 (v := x2 + 1) (lv2 := [(0, .ref 43), (1, .ref k1), (2, .int (x2 + 1)), (3, .int x3)]) dX8_findEnds_123 rfl (congrArg (x2 + ·) (by decide)) (by decide) rfl ?_
    refine td_goto (tgt := 18) dX8_findEnds_126 (by decide) ?_
    refine td_drop [0, 1, 2] rfl ?_
    exact K
  · have K := Kf q
    refine td_aload_n 0 dX8_findEnds_94 rfl ?_
    refine gf_X8_42 rfl kp_43 dX8_findEnds_95 ?_
    refine td_iload_n 2 dX8_findEnds_98 rfl ?_
    refine td_bipush (v := 12) dX8_findEnds_99 (by decide) ?_
    refine td_imul dX8_findEnds_101 ?_
    refine td_iload_n 3 dX8_findEnds_102 rfl ?_
    refine td_iadd dX8_findEnds_103 ?_
    refine td_aload_n 0 dX8_findEnds_104 rfl ?_
    refine gf_X8_21 rfl kp_43 dX8_findEnds_105 ?_
    refine gf_X8_78 rfl kp_49 dX8_findEnds_108 ?_
    refine gf_X8_113 rfl kp_56 dX8_findEnds_111 ?_
    refine td_iload_n 3 dX8_findEnds_114 rfl ?_
    obtain ⟨e115, K⟩ := K
    refine td_ialdc (j := (ix x3)) kp_59 (by decide) e115 rfl dX8_findEnds_115 ?_
    obtain ⟨e116, K⟩ := K
    refine td_iastc (j := (ix ((x2 * 12) + x3))) kp_76 (by decide) e116 rfl dX8_findEnds_116 ?_
    refine td_iinc 3 (v := x3 + 1) (lv2 := [(0, .ref 43), (1, .ref k1), (2, .int x2), (3, .int (x3 + 1))]) dX8_findEnds_117 rfl (congrArg (x3 + ·) (by decide)) (by decide) rfl ?_
    refine td_goto (tgt := 83) dX8_findEnds_120 (by decide) ?_
    exact K
set_option maxRecDepth 20000 in
theorem rX8_countAgreeing_0 {G : td_G} {d : Nat} {Post : td_P} {k1 : Nat} {x2 x3 : Int32} {h : td_H} (hk1 : td_kd k1 = 6) (K : td_J G d mX8_countAgreeing Post 6 [(0, .ref 43), (1, .ref k1), (2, .int x2), (3, .int x3), (4, .int 0), (5, .int 0)] [] h) : td_J G d mX8_countAgreeing Post 0 [(0, .ref 43), (1, .ref k1), (2, .int x2), (3, .int x3)] [] h := by
  refine td_iconst (v := 0) dX8_countAgreeing_0 (by decide) ?_
  refine td_istore (lv2 := [(0, .ref 43), (1, .ref k1), (2, .int x2), (3, .int x3), (4, .int 0)]) dX8_countAgreeing_1 (by decide) rfl ?_
  refine td_iconst (v := 0) dX8_countAgreeing_3 (by decide) ?_
  refine td_istore (lv2 := [(0, .ref 43), (1, .ref k1), (2, .int x2), (3, .int x3), (4, .int 0), (5, .int 0)]) dX8_countAgreeing_4 (by decide) rfl ?_
  exact K
set_option maxRecDepth 20000 in
theorem rX8_countAgreeing_6 {G : td_G} {d : Nat} {Post : td_P} {k1 : Nat} {x2 x3 x4 x5 : Int32} {h : td_H} (hk1 : td_kd k1 = 6) (K : (189 ≤ x5 → (Post (some (.int x4)) h)) ∧ (¬ 189 ≤ x5 → td_J G d mX8_countAgreeing Post 20 [(0, .ref 43), (1, .ref k1), (2, .int x2), (3, .int x3), (4, .int x4), (5, .int x5)] [.int x3, .int x2, .ref k1, .int x5, .ref 43] h)) : td_J G d mX8_countAgreeing Post 6 [(0, .ref 43), (1, .ref k1), (2, .int x2), (3, .int x3), (4, .int x4), (5, .int x5)] [] h := by
  refine td_iload 5 dX8_countAgreeing_6 rfl ?_
  refine td_sipush (v := 189) dX8_countAgreeing_8 (by decide) ?_
  obtain ⟨Kt, Kf⟩ := K
  refine td_icmp_ge (tgt := 46) dX8_countAgreeing_11 (by decide) (fun q => ?_) (fun q => ?_)
  · have K := Kt q
    refine td_iload 4 dX8_countAgreeing_46 rfl ?_
    exact td_ireturn rfl dX8_countAgreeing_48 K
  · have K := Kf q
    refine td_aload_n 0 dX8_countAgreeing_14 rfl ?_
    refine td_iload 5 dX8_countAgreeing_15 rfl ?_
    refine td_aload_n 1 dX8_countAgreeing_17 rfl ?_
    refine td_iload_n 2 dX8_countAgreeing_18 rfl ?_
    refine td_iload_n 3 dX8_countAgreeing_19 rfl ?_
    exact K
set_option maxRecDepth 20000 in
theorem rX8_countAgreeing_23 {G : td_G} {d : Nat} {Post : td_P} {k1 : Nat} {x2 x3 x4 x5 s0 : Int32} {h : td_H} (hk1 : td_kd k1 = 6) (K : (s0 = 0 → td_J G d mX8_countAgreeing Post 40 [(0, .ref 43), (1, .ref k1), (2, .int x2), (3, .int x3), (4, .int x4), (5, .int x5)] [] h) ∧ (¬ s0 = 0 → ((¬ x4 = 0 → td_J G d mX8_countAgreeing Post 37 [(0, .ref 43), (1, .ref k1), (2, .int x2), (3, .int x3), (4, .int x4), (5, .int x5)] [] h) ∧ (x4 = 0 → td_J G d mX8_countAgreeing Post 37 [(0, .ref 43), (1, .ref k1), (2, .int x2), (3, .int x3), (4, .int x4), (5, .int x5)] [] (hu h 43 10 x5))))) : td_J G d mX8_countAgreeing Post 23 [(0, .ref 43), (1, .ref k1), (2, .int x2), (3, .int x3), (4, .int x4), (5, .int x5)] [.int s0] h := by
  obtain ⟨Kt, Kf⟩ := K
  refine td_if_eq (tgt := 40) dX8_countAgreeing_23 (by decide) (fun q => ?_) (fun q => ?_)
  · have K := Kt q
    exact K
  · have K := Kf q
    refine td_iload 4 dX8_countAgreeing_26 rfl ?_
    obtain ⟨Kt, Kf⟩ := K
    refine td_if_ne (tgt := 37) dX8_countAgreeing_28 (by decide) (fun q => ?_) (fun q => ?_)
    · have K := Kt q
      exact K
    · have K := Kf q
      refine td_aload_n 0 dX8_countAgreeing_31 rfl ?_
      refine td_iload 5 dX8_countAgreeing_32 rfl ?_
      refine pf_X8_118 rfl kp_43 dX8_countAgreeing_34 ?_
      exact K
set_option maxRecDepth 20000 in
theorem rX8_countAgreeing_37 {G : td_G} {d : Nat} {Post : td_P} {k1 : Nat} {x2 x3 x4 x5 : Int32} {h : td_H} (hk1 : td_kd k1 = 6) (K : td_J G d mX8_countAgreeing Post 40 [(0, .ref 43), (1, .ref k1), (2, .int x2), (3, .int x3), (4, .int (x4 + 1)), (5, .int x5)] [] h) : td_J G d mX8_countAgreeing Post 37 [(0, .ref 43), (1, .ref k1), (2, .int x2), (3, .int x3), (4, .int x4), (5, .int x5)] [] h := by
  refine td_iinc 4 (v := x4 + 1) (lv2 := [(0, .ref 43), (1, .ref k1), (2, .int x2), (3, .int x3), (4, .int (x4 + 1)), (5, .int x5)]) dX8_countAgreeing_37 rfl (congrArg (x4 + ·) (by decide)) (by decide) rfl ?_
  exact K
set_option maxRecDepth 20000 in
theorem rX8_countAgreeing_40 {G : td_G} {d : Nat} {Post : td_P} {k1 : Nat} {x2 x3 x4 x5 : Int32} {h : td_H} (hk1 : td_kd k1 = 6) (K : td_J G d mX8_countAgreeing Post 6 [(0, .ref 43), (1, .ref k1), (2, .int x2), (3, .int x3), (4, .int x4), (5, .int (x5 + 1))] [] h) : td_J G d mX8_countAgreeing Post 40 [(0, .ref 43), (1, .ref k1), (2, .int x2), (3, .int x3), (4, .int x4), (5, .int x5)] [] h := by
  refine td_iinc 5 (v := x5 + 1) (lv2 := [(0, .ref 43), (1, .ref k1), (2, .int x2), (3, .int x3), (4, .int x4), (5, .int (x5 + 1))]) dX8_countAgreeing_40 rfl (congrArg (x5 + ·) (by decide)) (by decide) rfl ?_
  refine td_goto (tgt := 6) dX8_countAgreeing_43 (by decide) ?_
  exact K
set_option maxRecDepth 20000 in
theorem rX8_agrees_0 {G : td_G} {d : Nat} {Post : td_P} {k2 : Nat} {x1 x3 x4 : Int32} {h : td_H} (hk2 : td_kd k2 = 6) (K : td_J G d mX8_agrees Post 3 [(0, .ref 43), (1, .int x1), (2, .ref k2), (3, .int x3), (4, .int x4), (5, .int x3)] [] h) : td_J G d mX8_agrees Post 0 [(0, .ref 43), (1, .int x1), (2, .ref k2), (3, .int x3), (4, .int x4)] [] h := by
  refine td_iload_n 3 dX8_agrees_0 rfl ?_
  refine td_istore (lv2 := [(0, .ref 43), (1, .int x1), (2, .ref k2), (3, .int x3), (4, .int x4), (5, .int x3)]) dX8_agrees_1 (by decide) rfl ?_
  exact K
set_option maxRecDepth 20000 in
theorem rX8_agrees_3 {G : td_G} {d : Nat} {Post : td_P} {k2 : Nat} {x1 x3 x4 x5 : Int32} {h : td_H} (hk2 : td_kd k2 = 6) (K : ((x3 + (2 * x4)) ≤ x5 → (Post (some (.int 1)) h)) ∧ (¬ (x3 + (2 * x4)) ≤ x5 → td_J G d mX8_agrees Post 17 [(0, .ref 43), (1, .int x1), (2, .ref k2), (3, .int x3), (4, .int x4), (5, .int x5)] [.int x5, .ref k2] h)) : td_J G d mX8_agrees Post 3 [(0, .ref 43), (1, .int x1), (2, .ref k2), (3, .int x3), (4, .int x4), (5, .int x5)] [] h := by
  refine td_iload 5 dX8_agrees_3 rfl ?_
  refine td_iload_n 3 dX8_agrees_5 rfl ?_
  refine td_iconst (v := 2) dX8_agrees_6 (by decide) ?_
  refine td_iload 4 dX8_agrees_7 rfl ?_
  refine td_imul dX8_agrees_9 ?_
  refine td_iadd dX8_agrees_10 ?_
  obtain ⟨Kt, Kf⟩ := K
  refine td_icmp_ge (tgt := 63) dX8_agrees_11 (by decide) (fun q => ?_) (fun q => ?_)
  · have K := Kt q
    refine td_iconst (v := 1) dX8_agrees_63 (by decide) ?_
    exact td_zreturn rfl rfl dX8_agrees_64 K
  · have K := Kf q
    refine td_aload_n 2 dX8_agrees_14 rfl ?_
    refine td_iload 5 dX8_agrees_15 rfl ?_
    exact K
set_option maxRecDepth 20000 in
theorem rX8_agrees_20 {G : td_G} {d : Nat} {Post : td_P} {k2 : Nat} {x1 x3 x4 x5 s0 : Int32} {h : td_H} (hk2 : td_kd k2 = 6) (K : td_J G d mX8_agrees Post 26 [(0, .ref 43), (1, .int x1), (2, .ref k2), (3, .int x3), (4, .int x4), (5, .int x5), (6, .int s0)] [.int 12, .int s0] h) : td_J G d mX8_agrees Post 20 [(0, .ref 43), (1, .int x1), (2, .ref k2), (3, .int x3), (4, .int x4), (5, .int x5)] [.int s0] h := by
  refine td_istore (lv2 := [(0, .ref 43), (1, .int x1), (2, .ref k2), (3, .int x3), (4, .int x4), (5, .int x5), (6, .int s0)]) dX8_agrees_20 (by decide) rfl ?_
  refine td_iload 6 dX8_agrees_22 rfl ?_
  refine td_bipush (v := 12) dX8_agrees_24 (by decide) ?_
  exact K
set_option maxRecDepth 20000 in
theorem rX8_agrees_29 {G : td_G} {d : Nat} {Post : td_P} {k2 : Nat} {x1 x3 x4 x5 x6 s0 : Int32} {h : td_H} (hk2 : td_kd k2 = 6) (K : (s0 = 0 → td_J G d mX8_agrees Post 55 [(0, .ref 43), (1, .int x1), (2, .ref k2), (3, .int x3), (4, .int x4), (5, .int x5), (6, .int x6)] [] h) ∧ (¬ s0 = 0 → (vp_in ((x1 * 12) + x6) 2268 ∧ (td_J G d mX8_agrees Post 49 [(0, .ref 43), (1, .int x1), (2, .ref k2), (3, .int x3), (4, .int x4), (5, .int x5), (6, .int x6)] [.int (x5 + 1), .ref k2, .int (h 76 (ix ((x1 * 12) + x6)))] h)))) : td_J G d mX8_agrees Post 29 [(0, .ref 43), (1, .int x1), (2, .ref k2), (3, .int x3), (4, .int x4), (5, .int x5), (6, .int x6)] [.int s0] h := by
  obtain ⟨Kt, Kf⟩ := K
  refine td_if_eq (tgt := 55) dX8_agrees_29 (by decide) (fun q => ?_) (fun q => ?_)
  · have K := Kt q
    exact K
  · have K := Kf q
    refine td_aload_n 0 dX8_agrees_32 rfl ?_
    refine gf_X8_42 rfl kp_43 dX8_agrees_33 ?_
    refine td_iload_n 1 dX8_agrees_36 rfl ?_
    refine td_bipush (v := 12) dX8_agrees_37 (by decide) ?_
    refine td_imul dX8_agrees_39 ?_
    refine td_iload 6 dX8_agrees_40 rfl ?_
    refine td_iadd dX8_agrees_42 ?_
    obtain ⟨e43, K⟩ := K
    refine td_ialdc (j := (ix ((x1 * 12) + x6))) kp_76 (by decide) e43 rfl dX8_agrees_43 ?_
    refine td_aload_n 2 dX8_agrees_44 rfl ?_
    refine td_iload 5 dX8_agrees_45 rfl ?_
    refine td_iconst (v := 1) dX8_agrees_47 (by decide) ?_
    refine td_iadd dX8_agrees_48 ?_
    exact K
set_option maxRecDepth 20000 in
theorem rX8_agrees_52 {G : td_G} {d : Nat} {Post : td_P} {k2 : Nat} {x1 x3 x4 x5 x6 s0 s1 : Int32} {h : td_H} (hk2 : td_kd k2 = 6) (K : (s0 = s1 → td_J G d mX8_agrees Post 3 [(0, .ref 43), (1, .int x1), (2, .ref k2), (3, .int x3), (4, .int x4), (5, .int (x5 + 2))] [] h) ∧ (¬ s0 = s1 → td_J G d mX8_agrees Post 55 [(0, .ref 43), (1, .int x1), (2, .ref k2), (3, .int x3), (4, .int x4), (5, .int x5), (6, .int x6)] [] h)) : td_J G d mX8_agrees Post 52 [(0, .ref 43), (1, .int x1), (2, .ref k2), (3, .int x3), (4, .int x4), (5, .int x5), (6, .int x6)] [.int s1, .int s0] h := by
  obtain ⟨Kt, Kf⟩ := K
  refine td_icmp_eq (tgt := 57) dX8_agrees_52 (by decide) (fun q => ?_) (fun q => ?_)
  · have K := Kt q
    refine td_iinc 5 (v := x5 + 2) (lv2 := [(0, .ref 43), (1, .int x1), (2, .ref k2), (3, .int x3), (4, .int x4), (5, .int (x5 + 2)), (6, .int x6)]) dX8_agrees_57 rfl (congrArg (x5 + ·) (by decide)) (by decide) rfl ?_
    refine td_goto (tgt := 3) dX8_agrees_60 (by decide) ?_
    refine td_drop [0, 1, 2, 3, 4, 5] rfl ?_
    exact K
  · have K := Kf q
    exact K
set_option maxRecDepth 20000 in
theorem rX8_agrees_55 {G : td_G} {d : Nat} {Post : td_P} {k2 : Nat} {x1 x3 x4 x5 x6 : Int32} {h : td_H} (hk2 : td_kd k2 = 6) (K : Post (some (.int 0)) h) : td_J G d mX8_agrees Post 55 [(0, .ref 43), (1, .int x1), (2, .ref k2), (3, .int x3), (4, .int x4), (5, .int x5), (6, .int x6)] [] h := by
  refine td_iconst (v := 0) dX8_agrees_55 (by decide) ?_
  exact td_zreturn rfl rfl dX8_agrees_56 K
set_option maxRecDepth 20000 in
theorem rX8_firstMotor_0 {G : td_G} {d : Nat} {Post : td_P} {h : td_H} (K : Post (some (.int ((h 43 10) / 9))) h) : td_J G d mX8_firstMotor Post 0 [(0, .ref 43)] [] h := by
  refine td_aload_n 0 dX8_firstMotor_0 rfl ?_
  refine gf_X8_118 rfl kp_43 dX8_firstMotor_1 ?_
  refine td_bipush (v := 9) dX8_firstMotor_4 (by decide) ?_
  refine td_idiv dX8_firstMotor_6 (by decide) ?_
  exact td_ireturn rfl dX8_firstMotor_7 K
set_option maxRecDepth 20000 in
theorem rX8_firstDrag_0 {G : td_G} {d : Nat} {Post : td_P} {h : td_H} (K : Post (some (.int (1 + (jrem (h 43 10) 9)))) h) : td_J G d mX8_firstDrag Post 0 [(0, .ref 43)] [] h := by
  refine td_iconst (v := 1) dX8_firstDrag_0 (by decide) ?_
  refine td_aload_n 0 dX8_firstDrag_1 rfl ?_
  refine gf_X8_118 rfl kp_43 dX8_firstDrag_2 ?_
  refine td_bipush (v := 9) dX8_firstDrag_5 (by decide) ?_
  refine td_irem dX8_firstDrag_7 (by decide) ?_
  refine td_iadd dX8_firstDrag_8 ?_
  exact td_ireturn rfl dX8_firstDrag_9 K
set_option maxRecDepth 20000 in
theorem rX8_findOrder_0 {G : td_G} {d : Nat} {Post : td_P} {k1 : Nat} {x2 : Int32} {h : td_H} (hk1 : td_kd k1 = 5) (K : (¬ (h 69 4) = x2 → td_J G d mX8_findOrder Post 17 [(0, .ref 43), (1, .ref k1), (2, .int x2)] [.ref k1, .ref 44] h) ∧ ((h 69 4) = x2 → (Post none h))) : td_J G d mX8_findOrder Post 0 [(0, .ref 43), (1, .ref k1), (2, .int x2)] [] h := by
  refine td_aload_n 0 dX8_findOrder_0 rfl ?_
  refine gf_X8_28 rfl kp_43 dX8_findOrder_1 ?_
  refine gf_X8_56 rfl kp_69 dX8_findOrder_4 ?_
  refine td_iload_n 2 dX8_findOrder_7 rfl ?_
  obtain ⟨Kt, Kf⟩ := K
  refine td_icmp_ne (tgt := 12) dX8_findOrder_8 (by decide) (fun q => ?_) (fun q => ?_)
  · have K := Kt q
    refine td_aload_n 0 dX8_findOrder_12 rfl ?_
    refine gf_X8_12 rfl kp_43 dX8_findOrder_13 ?_
    refine td_aload_n 1 dX8_findOrder_16 rfl ?_
    exact K
  · have K := Kf q
    exact td_return rfl dX8_findOrder_11 K
set_option maxRecDepth 20000 in
theorem rX8_findOrder_20 {G : td_G} {d : Nat} {Post : td_P} {k1 : Nat} {x2 : Int32} {h : td_H} (hk1 : td_kd k1 = 5) (K : td_J G d mX8_findOrder Post 26 [(0, .ref 43), (1, .ref k1), (2, .int x2)] [.int x2, .ref k1, .ref 69] h) : td_J G d mX8_findOrder Post 20 [(0, .ref 43), (1, .ref k1), (2, .int x2)] [] h := by
  refine td_aload_n 0 dX8_findOrder_20 rfl ?_
  refine gf_X8_28 rfl kp_43 dX8_findOrder_21 ?_
  refine td_aload_n 1 dX8_findOrder_24 rfl ?_
  refine td_iload_n 2 dX8_findOrder_25 rfl ?_
  exact K
set_option maxRecDepth 20000 in
theorem rX8_findOrder_29 {G : td_G} {d : Nat} {Post : td_P} {k1 : Nat} {x2 : Int32} {h : td_H} (hk1 : td_kd k1 = 5) (K : td_J G d mX8_findOrder Post 31 [(0, .ref 43), (1, .ref k1), (2, .int x2), (3, .int 0)] [] h) : td_J G d mX8_findOrder Post 29 [(0, .ref 43), (1, .ref k1), (2, .int x2)] [] h := by
  refine td_iconst (v := 0) dX8_findOrder_29 (by decide) ?_
  refine td_istore_n (lv2 := [(0, .ref 43), (1, .ref k1), (2, .int x2), (3, .int 0)]) dX8_findOrder_30 (by decide) rfl ?_
  exact K
set_option maxRecDepth 20000 in
theorem rX8_findOrder_31 {G : td_G} {d : Nat} {Post : td_P} {k1 : Nat} {x2 x3 : Int32} {h : td_H} (hk1 : td_kd k1 = 5) (K : (720 ≤ x3 → (Post none h)) ∧ (¬ 720 ≤ x3 → td_J G d mX8_findOrder Post 42 [(0, .ref 43), (1, .ref k1), (2, .int x2), (3, .int x3)] [.ref 69] h)) : td_J G d mX8_findOrder Post 31 [(0, .ref 43), (1, .ref k1), (2, .int x2), (3, .int x3)] [] h := by
  refine td_iload_n 3 dX8_findOrder_31 rfl ?_
  refine td_sipush (v := 720) dX8_findOrder_32 (by decide) ?_
  obtain ⟨Kt, Kf⟩ := K
  refine td_icmp_ge (tgt := 127) dX8_findOrder_35 (by decide) (fun q => ?_) (fun q => ?_)
  · have K := Kt q
    exact td_return rfl dX8_findOrder_127 K
  · have K := Kf q
    refine td_aload_n 0 dX8_findOrder_38 rfl ?_
    refine gf_X8_28 rfl kp_43 dX8_findOrder_39 ?_
    exact K
set_option maxRecDepth 20000 in
theorem rX8_findOrder_45 {G : td_G} {d : Nat} {Post : td_P} {k1 : Nat} {x2 x3 s0 : Int32} {h : td_H} (hk1 : td_kd k1 = 5) (K : (s0 = 0 → td_J G d mX8_findOrder Post 110 [(0, .ref 43), (1, .ref k1), (2, .int x2), (3, .int x3)] [] h) ∧ (¬ s0 = 0 → td_J G d mX8_findOrder Post 56 [(0, .ref 43), (1, .ref k1), (2, .int x2), (3, .int x3)] [.ref 44, .ref 69] h)) : td_J G d mX8_findOrder Post 45 [(0, .ref 43), (1, .ref k1), (2, .int x2), (3, .int x3)] [.int s0] h := by
  obtain ⟨Kt, Kf⟩ := K
  refine td_if_eq (tgt := 110) dX8_findOrder_45 (by decide) (fun q => ?_) (fun q => ?_)
  · have K := Kt q
    exact K
  · have K := Kf q
    refine td_aload_n 0 dX8_findOrder_48 rfl ?_
    refine gf_X8_28 rfl kp_43 dX8_findOrder_49 ?_
    refine td_aload_n 0 dX8_findOrder_52 rfl ?_
    refine gf_X8_12 rfl kp_43 dX8_findOrder_53 ?_
    exact K
set_option maxRecDepth 20000 in
theorem rX8_findOrder_59 {G : td_G} {d : Nat} {Post : td_P} {k1 : Nat} {x2 x3 : Int32} {h : td_H} (hk1 : td_kd k1 = 5) (K : td_J G d mX8_findOrder Post 71 [(0, .ref 43), (1, .ref k1), (2, .int x2), (3, .int x3)] [.ref 44, .ref 44, .ref 49] h) : td_J G d mX8_findOrder Post 59 [(0, .ref 43), (1, .ref k1), (2, .int x2), (3, .int x3)] [] h := by
  refine td_aload_n 0 dX8_findOrder_59 rfl ?_
  refine gf_X8_21 rfl kp_43 dX8_findOrder_60 ?_
  refine td_aload_n 0 dX8_findOrder_63 rfl ?_
  refine gf_X8_12 rfl kp_43 dX8_findOrder_64 ?_
  refine td_aload_n 0 dX8_findOrder_67 rfl ?_
  refine gf_X8_12 rfl kp_43 dX8_findOrder_68 ?_
  exact K
set_option maxRecDepth 20000 in
theorem rX8_findOrder_77 {G : td_G} {d : Nat} {Post : td_P} {k1 : Nat} {x2 x3 : Int32} {h : td_H} (hk1 : td_kd k1 = 5) (K : td_J G d mX8_findOrder Post 89 [(0, .ref 43), (1, .ref k1), (2, .int x2), (3, .int x3)] [.int 1, .int (h 69 5), .ref 49] h) : td_J G d mX8_findOrder Post 77 [(0, .ref 43), (1, .ref k1), (2, .int x2), (3, .int x3)] [] h := by
  refine td_aload_n 0 dX8_findOrder_77 rfl ?_
  refine gf_X8_21 rfl kp_43 dX8_findOrder_78 ?_
  refine td_aload_n 0 dX8_findOrder_81 rfl ?_
  refine gf_X8_28 rfl kp_43 dX8_findOrder_82 ?_
  refine gf_X8_134 rfl kp_69 dX8_findOrder_85 ?_
  refine td_iconst (v := 1) dX8_findOrder_88 (by decide) ?_
  exact K
set_option maxRecDepth 20000 in
theorem rX8_findOrder_92 {G : td_G} {d : Nat} {Post : td_P} {k1 : Nat} {x2 x3 : Int32} {h : td_H} (hk1 : td_kd k1 = 5) (K : td_J G d mX8_findOrder Post 107 [(0, .ref 43), (1, .ref k1), (2, .int x2), (3, .int x3)] [.ref 44, .ref 56, .ref 69] h) : td_J G d mX8_findOrder Post 92 [(0, .ref 43), (1, .ref k1), (2, .int x2), (3, .int x3)] [] h := by
  refine td_aload_n 0 dX8_findOrder_92 rfl ?_
  refine gf_X8_28 rfl kp_43 dX8_findOrder_93 ?_
  refine td_aload_n 0 dX8_findOrder_96 rfl ?_
  refine gf_X8_21 rfl kp_43 dX8_findOrder_97 ?_
  refine gf_X8_78 rfl kp_49 dX8_findOrder_100 ?_
  refine td_aload_n 0 dX8_findOrder_103 rfl ?_
  refine gf_X8_12 rfl kp_43 dX8_findOrder_104 ?_
  exact K
set_option maxRecDepth 20000 in
theorem rX8_findOrder_110 {G : td_G} {d : Nat} {Post : td_P} {k1 : Nat} {x2 x3 : Int32} {h : td_H} (hk1 : td_kd k1 = 5) (K : td_J G d mX8_findOrder Post 114 [(0, .ref 43), (1, .ref k1), (2, .int x2), (3, .int x3)] [.ref 69] h) : td_J G d mX8_findOrder Post 110 [(0, .ref 43), (1, .ref k1), (2, .int x2), (3, .int x3)] [] h := by
  refine td_aload_n 0 dX8_findOrder_110 rfl ?_
  refine gf_X8_28 rfl kp_43 dX8_findOrder_111 ?_
  exact K
set_option maxRecDepth 20000 in
theorem rX8_findOrder_117 {G : td_G} {d : Nat} {Post : td_P} {k1 : Nat} {x2 x3 s0 : Int32} {h : td_H} (hk1 : td_kd k1 = 5) (K : (¬ s0 = 0 → td_J G d mX8_findOrder Post 31 [(0, .ref 43), (1, .ref k1), (2, .int x2), (3, .int (x3 + 1))] [] h) ∧ (s0 = 0 → (Post none h))) : td_J G d mX8_findOrder Post 117 [(0, .ref 43), (1, .ref k1), (2, .int x2), (3, .int x3)] [.int s0] h := by
  obtain ⟨Kt, Kf⟩ := K
  refine td_if_ne (tgt := 121) dX8_findOrder_117 (by decide) (fun q => ?_) (fun q => ?_)
  · have K := Kt q
    refine td_iinc 3 (v := x3 + 1) (lv2 := [(0, .ref 43), (1, .ref k1), (2, .int x2), (3, .int (x3 + 1))]) dX8_findOrder_121 rfl (congrArg (x3 + ·) (by decide)) (by decide) rfl ?_
    refine td_goto (tgt := 31) dX8_findOrder_124 (by decide) ?_
    exact K
  · have K := Kf q
    exact td_return rfl dX8_findOrder_120 K
