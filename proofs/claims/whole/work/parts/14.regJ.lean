set_option maxRecDepth 20000 in
theorem rJ6_bitCount_0f7a4_0 {G : td_G} {d : Nat} {Post : td_P} {x0 : Int32} {h : td_H} (K : Post (some (.int ((((((((x0 - ((jushr x0 1) &&& 1431655765)) &&& 858993459) + ((jushr (x0 - ((jushr x0 1) &&& 1431655765)) 2) &&& 858993459)) + (jushr (((x0 - ((jushr x0 1) &&& 1431655765)) &&& 858993459) + ((jushr (x0 - ((jushr x0 1) &&& 1431655765)) 2) &&& 858993459)) 4)) &&& 252645135) + (jushr (((((x0 - ((jushr x0 1) &&& 1431655765)) &&& 858993459) + ((jushr (x0 - ((jushr x0 1) &&& 1431655765)) 2) &&& 858993459)) + (jushr (((x0 - ((jushr x0 1) &&& 1431655765)) &&& 858993459) + ((jushr (x0 - ((jushr x0 1) &&& 1431655765)) 2) &&& 858993459)) 4)) &&& 252645135) 8)) + (jushr ((((((x0 - ((jushr x0 1) &&& 1431655765)) &&& 858993459) + ((jushr (x0 - ((jushr x0 1) &&& 1431655765)) 2) &&& 858993459)) + (jushr (((x0 - ((jushr x0 1) &&& 1431655765)) &&& 858993459) + ((jushr (x0 - ((jushr x0 1) &&& 1431655765)) 2) &&& 858993459)) 4)) &&& 252645135) + (jushr (((((x0 - ((jushr x0 1) &&& 1431655765)) &&& 858993459) + ((jushr (x0 - ((jushr x0 1) &&& 1431655765)) 2) &&& 858993459)) + (jushr (((x0 - ((jushr x0 1) &&& 1431655765)) &&& 858993459) + ((jushr (x0 - ((jushr x0 1) &&& 1431655765)) 2) &&& 858993459)) 4)) &&& 252645135) 8)) 16)) &&& 63))) h) : td_J G d mJ6_bitCount_0f7a4 Post 0 [(0, .int x0)] [] h := by
  refine td_iload_n 0 dJ6_bitCount_0f7a4_0 rfl ?_
  refine td_iload_n 0 dJ6_bitCount_0f7a4_1 rfl ?_
  refine td_iconst (v := 1) dJ6_bitCount_0f7a4_2 (by decide) ?_
  refine td_iushr dJ6_bitCount_0f7a4_3 ?_
  refine td_ldcw (v := 1431655765) kw_J6_265 dJ6_bitCount_0f7a4_4 ?_
  refine td_iand dJ6_bitCount_0f7a4_7 ?_
  refine td_isub dJ6_bitCount_0f7a4_8 ?_
  refine td_istore_n (lv2 := [(0, .int (x0 - ((jushr x0 1) &&& 1431655765)))]) dJ6_bitCount_0f7a4_9 (by decide) rfl ?_
  refine td_iload_n 0 dJ6_bitCount_0f7a4_10 rfl ?_
  refine td_ldcw (v := 858993459) kw_J6_266 dJ6_bitCount_0f7a4_11 ?_
  refine td_iand dJ6_bitCount_0f7a4_14 ?_
  refine td_iload_n 0 dJ6_bitCount_0f7a4_15 rfl ?_
  refine td_iconst (v := 2) dJ6_bitCount_0f7a4_16 (by decide) ?_
  refine td_iushr dJ6_bitCount_0f7a4_17 ?_
  refine td_ldcw (v := 858993459) kw_J6_266 dJ6_bitCount_0f7a4_18 ?_
  refine td_iand dJ6_bitCount_0f7a4_21 ?_
  refine td_iadd dJ6_bitCount_0f7a4_22 ?_
  refine td_istore_n (lv2 := [(0, .int (((x0 - ((jushr x0 1) &&& 1431655765)) &&& 858993459) + ((jushr (x0 - ((jushr x0 1) &&& 1431655765)) 2) &&& 858993459)))]) dJ6_bitCount_0f7a4_23 (by decide) rfl ?_
  refine td_iload_n 0 dJ6_bitCount_0f7a4_24 rfl ?_
  refine td_iload_n 0 dJ6_bitCount_0f7a4_25 rfl ?_
  refine td_iconst (v := 4) dJ6_bitCount_0f7a4_26 (by decide) ?_
  refine td_iushr dJ6_bitCount_0f7a4_27 ?_
  refine td_iadd dJ6_bitCount_0f7a4_28 ?_
  refine td_ldcw (v := 252645135) kw_J6_267 dJ6_bitCount_0f7a4_29 ?_
  refine td_iand dJ6_bitCount_0f7a4_32 ?_
  refine td_istore_n (lv2 := [(0, .int (((((x0 - ((jushr x0 1) &&& 1431655765)) &&& 858993459) + ((jushr (x0 - ((jushr x0 1) &&& 1431655765)) 2) &&& 858993459)) + (jushr (((x0 - ((jushr x0 1) &&& 1431655765)) &&& 858993459) + ((jushr (x0 - ((jushr x0 1) &&& 1431655765)) 2) &&& 858993459)) 4)) &&& 252645135))]) dJ6_bitCount_0f7a4_33 (by decide) rfl ?_
  refine td_iload_n 0 dJ6_bitCount_0f7a4_34 rfl ?_
  refine td_iload_n 0 dJ6_bitCount_0f7a4_35 rfl ?_
  refine td_bipush (v := 8) dJ6_bitCount_0f7a4_36 (by decide) ?_
  refine td_iushr dJ6_bitCount_0f7a4_38 ?_
  refine td_iadd dJ6_bitCount_0f7a4_39 ?_
  refine td_istore_n (lv2 := [(0, .int ((((((x0 - ((jushr x0 1) &&& 1431655765)) &&& 858993459) + ((jushr (x0 - ((jushr x0 1) &&& 1431655765)) 2) &&& 858993459)) + (jushr (((x0 - ((jushr x0 1) &&& 1431655765)) &&& 858993459) + ((jushr (x0 - ((jushr x0 1) &&& 1431655765)) 2) &&& 858993459)) 4)) &&& 252645135) + (jushr (((((x0 - ((jushr x0 1) &&& 1431655765)) &&& 858993459) + ((jushr (x0 - ((jushr x0 1) &&& 1431655765)) 2) &&& 858993459)) + (jushr (((x0 - ((jushr x0 1) &&& 1431655765)) &&& 858993459) + ((jushr (x0 - ((jushr x0 1) &&& 1431655765)) 2) &&& 858993459)) 4)) &&& 252645135) 8)))]) dJ6_bitCount_0f7a4_40 (by decide) rfl ?_
  refine td_iload_n 0 dJ6_bitCount_0f7a4_41 rfl ?_
  refine td_iload_n 0 dJ6_bitCount_0f7a4_42 rfl ?_
  refine td_bipush (v := 16) dJ6_bitCount_0f7a4_43 (by decide) ?_
  refine td_iushr dJ6_bitCount_0f7a4_45 ?_
  refine td_iadd dJ6_bitCount_0f7a4_46 ?_
  refine td_istore_n (lv2 := [(0, .int (((((((x0 - ((jushr x0 1) &&& 1431655765)) &&& 858993459) + ((jushr (x0 - ((jushr x0 1) &&& 1431655765)) 2) &&& 858993459)) + (jushr (((x0 - ((jushr x0 1) &&& 1431655765)) &&& 858993459) + ((jushr (x0 - ((jushr x0 1) &&& 1431655765)) 2) &&& 858993459)) 4)) &&& 252645135) + (jushr (((((x0 - ((jushr x0 1) &&& 1431655765)) &&& 858993459) + ((jushr (x0 - ((jushr x0 1) &&& 1431655765)) 2) &&& 858993459)) + (jushr (((x0 - ((jushr x0 1) &&& 1431655765)) &&& 858993459) + ((jushr (x0 - ((jushr x0 1) &&& 1431655765)) 2) &&& 858993459)) 4)) &&& 252645135) 8)) + (jushr ((((((x0 - ((jushr x0 1) &&& 1431655765)) &&& 858993459) + ((jushr (x0 - ((jushr x0 1) &&& 1431655765)) 2) &&& 858993459)) + (jushr (((x0 - ((jushr x0 1) &&& 1431655765)) &&& 858993459) + ((jushr (x0 - ((jushr x0 1) &&& 1431655765)) 2) &&& 858993459)) 4)) &&& 252645135) + (jushr (((((x0 - ((jushr x0 1) &&& 1431655765)) &&& 858993459) + ((jushr (x0 - ((jushr x0 1) &&& 1431655765)) 2) &&& 858993459)) + (jushr (((x0 - ((jushr x0 1) &&& 1431655765)) &&& 858993459) + ((jushr (x0 - ((jushr x0 1) &&& 1431655765)) 2) &&& 858993459)) 4)) &&& 252645135) 8)) 16)))]) dJ6_bitCount_0f7a4_47 (by decide) rfl ?_
  refine td_iload_n 0 dJ6_bitCount_0f7a4_48 rfl ?_
  refine td_bipush (v := 63) dJ6_bitCount_0f7a4_49 (by decide) ?_
  refine td_iand dJ6_bitCount_0f7a4_51 ?_
  exact td_ireturn rfl dJ6_bitCount_0f7a4_52 K
set_option maxRecDepth 20000 in
theorem rJ9_max_7cf53_0 {G : td_G} {d : Nat} {Post : td_P} {x0 x1 : Int32} {h : td_H} (K : (x0 < x1 → td_J G d mJ9_max_7cf53 Post 10 [(0, .int x0), (1, .int x1)] [.int x1] h) ∧ (¬ x0 < x1 → td_J G d mJ9_max_7cf53 Post 10 [(0, .int x0), (1, .int x1)] [.int x0] h)) : td_J G d mJ9_max_7cf53 Post 0 [(0, .int x0), (1, .int x1)] [] h := by
  refine td_iload_n 0 dJ9_max_7cf53_0 rfl ?_
  refine td_iload_n 1 dJ9_max_7cf53_1 rfl ?_
  obtain ⟨Kt, Kf⟩ := K
  refine td_icmp_lt (tgt := 9) dJ9_max_7cf53_2 (by decide) (fun q => ?_) (fun q => ?_)
  · have K := Kt q
    refine td_iload_n 1 dJ9_max_7cf53_9 rfl ?_
    exact K
  · have K := Kf q
    refine td_iload_n 0 dJ9_max_7cf53_5 rfl ?_
    refine td_goto (tgt := 10) dJ9_max_7cf53_6 (by decide) ?_
    exact K
set_option maxRecDepth 20000 in
theorem rJ9_max_7cf53_10 {G : td_G} {d : Nat} {Post : td_P} {x0 x1 s0 : Int32} {h : td_H} (K : Post (some (.int s0)) h) : td_J G d mJ9_max_7cf53 Post 10 [(0, .int x0), (1, .int x1)] [.int s0] h := by
  exact td_ireturn rfl dJ9_max_7cf53_10 K
set_option maxRecDepth 20000 in
theorem rJ9_min_7cf53_0 {G : td_G} {d : Nat} {Post : td_P} {x0 x1 : Int32} {h : td_H} (K : (x1 < x0 → td_J G d mJ9_min_7cf53 Post 10 [(0, .int x0), (1, .int x1)] [.int x1] h) ∧ (¬ x1 < x0 → td_J G d mJ9_min_7cf53 Post 10 [(0, .int x0), (1, .int x1)] [.int x0] h)) : td_J G d mJ9_min_7cf53 Post 0 [(0, .int x0), (1, .int x1)] [] h := by
  refine td_iload_n 0 dJ9_min_7cf53_0 rfl ?_
  refine td_iload_n 1 dJ9_min_7cf53_1 rfl ?_
  obtain ⟨Kt, Kf⟩ := K
  refine td_icmp_gt (tgt := 9) dJ9_min_7cf53_2 (by decide) (fun q => ?_) (fun q => ?_)
  · have K := Kt q
    refine td_iload_n 1 dJ9_min_7cf53_9 rfl ?_
    exact K
  · have K := Kf q
    refine td_iload_n 0 dJ9_min_7cf53_5 rfl ?_
    refine td_goto (tgt := 10) dJ9_min_7cf53_6 (by decide) ?_
    exact K
set_option maxRecDepth 20000 in
theorem rJ9_min_7cf53_10 {G : td_G} {d : Nat} {Post : td_P} {x0 x1 s0 : Int32} {h : td_H} (K : Post (some (.int s0)) h) : td_J G d mJ9_min_7cf53 Post 10 [(0, .int x0), (1, .int x1)] [.int s0] h := by
  exact td_ireturn rfl dJ9_min_7cf53_10 K
set_option maxRecDepth 20000 in
theorem rJ7_fill_53178_0 {G : td_G} {d : Nat} {Post : td_P} {k0 nk0 : Nat} {x1 : Int32} {h : td_H} (hk0 : td_kd k0 = 100 + nk0) (gk0 : nk0 ≠ 899) (K : td_J G d mJ7_fill_53178 Post 5 [(0, .ref k0), (1, .int x1), (2, .int 0), (3, .int (nI nk0))] [] h) : td_J G d mJ7_fill_53178 Post 0 [(0, .ref k0), (1, .int x1)] [] h := by
  refine td_iconst (v := 0) dJ7_fill_53178_0 (by decide) ?_
  refine td_istore_n (lv2 := [(0, .ref k0), (1, .int x1), (2, .int 0)]) dJ7_fill_53178_1 (by decide) rfl ?_
  refine td_aload_n 0 dJ7_fill_53178_2 rfl ?_
  refine td_alen (v := nI nk0) hk0 gk0 rfl dJ7_fill_53178_3 ?_
  refine td_istore_n (lv2 := [(0, .ref k0), (1, .int x1), (2, .int 0), (3, .int (nI nk0))]) dJ7_fill_53178_4 (by decide) rfl ?_
  exact K
set_option maxRecDepth 20000 in
theorem rJ7_fill_53178_5 {G : td_G} {d : Nat} {Post : td_P} {k0 nk0 : Nat} {x1 x2 x3 : Int32} {h : td_H} (hk0 : td_kd k0 = 100 + nk0) (gk0 : nk0 ≠ 899) (K : (x3 ≤ x2 → (Post none h)) ∧ (¬ x3 ≤ x2 → (vp_in x2 nk0 ∧ (td_J G d mJ7_fill_53178 Post 5 [(0, .ref k0), (1, .int x1), (2, .int (x2 + 1)), (3, .int x3)] [] (hu h k0 (ix x2) x1))))) : td_J G d mJ7_fill_53178 Post 5 [(0, .ref k0), (1, .int x1), (2, .int x2), (3, .int x3)] [] h := by
  refine td_iload_n 2 dJ7_fill_53178_5 rfl ?_
  refine td_iload_n 3 dJ7_fill_53178_6 rfl ?_
  obtain ⟨Kt, Kf⟩ := K
  refine td_icmp_ge (tgt := 20) dJ7_fill_53178_7 (by decide) (fun q => ?_) (fun q => ?_)
  · have K := Kt q
    exact td_return rfl dJ7_fill_53178_20 K
  · have K := Kf q
    refine td_aload_n 0 dJ7_fill_53178_10 rfl ?_
    refine td_iload_n 2 dJ7_fill_53178_11 rfl ?_
    refine td_iload_n 1 dJ7_fill_53178_12 rfl ?_
    obtain ⟨e13, K⟩ := K
    refine td_iastc (j := (ix x2)) hk0 gk0 e13 rfl dJ7_fill_53178_13 ?_
    refine td_iinc 2 (v := x2 + 1) (lv2 := [(0, .ref k0), (1, .int x1), (2, .int (x2 + 1)), (3, .int x3)]) dJ7_fill_53178_14 rfl (congrArg (x2 + ·) (by decide)) (by decide) rfl ?_
    refine td_goto (tgt := 5) dJ7_fill_53178_17 (by decide) ?_
    exact K
