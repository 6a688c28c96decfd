set_option maxRecDepth 20000 in
theorem rX10_in_0 {G : td_G} {d : Nat} {Post : td_P} {w0 w2 w4 : Int64} {h : td_H} (K : ((lg_cmp w0 w2) < 0 → td_J G d mX10_in Post 17 [(0, .long w0), (2, .long w2), (4, .long w4)] [] h) ∧ (¬ (lg_cmp w0 w2) < 0 → ((0 < (lg_cmp w0 w4) → td_J G d mX10_in Post 17 [(0, .long w0), (2, .long w2), (4, .long w4)] [] h) ∧ (¬ 0 < (lg_cmp w0 w4) → td_J G d mX10_in Post 18 [(0, .long w0), (2, .long w2), (4, .long w4)] [.int 1] h)))) : td_J G d mX10_in Post 0 [(0, .long w0), (2, .long w2), (4, .long w4)] [] h := by
  refine td_lload_n 0 dX10_in_0 rfl ?_
  refine td_lload_n 1 dX10_in_1 rfl ?_
  refine td_lcmp dX10_in_2 ?_
  obtain ⟨Kt, Kf⟩ := K
  refine td_if_lt (tgt := 17) dX10_in_3 (by decide) (fun q => ?_) (fun q => ?_)
  · have K := Kt q
    exact K
  · have K := Kf q
    refine td_lload_n 0 dX10_in_6 rfl ?_
    refine td_lload 2 dX10_in_7 rfl ?_
    refine td_lcmp dX10_in_9 ?_
    obtain ⟨Kt, Kf⟩ := K
    refine td_if_gt (tgt := 17) dX10_in_10 (by decide) (fun q => ?_) (fun q => ?_)
    · have K := Kt q
      exact K
    · have K := Kf q
      refine td_iconst (v := 1) dX10_in_13 (by decide) ?_
      refine td_goto (tgt := 18) dX10_in_14 (by decide) ?_
      exact K
set_option maxRecDepth 20000 in
theorem rX10_in_17 {G : td_G} {d : Nat} {Post : td_P} {w0 w2 w4 : Int64} {h : td_H} (K : td_J G d mX10_in Post 18 [(0, .long w0), (2, .long w2), (4, .long w4)] [.int 0] h) : td_J G d mX10_in Post 17 [(0, .long w0), (2, .long w2), (4, .long w4)] [] h := by
  refine td_iconst (v := 0) dX10_in_17 (by decide) ?_
  exact K
set_option maxRecDepth 20000 in
theorem rX10_in_18 {G : td_G} {d : Nat} {Post : td_P} {s0 : Int32} {w0 w2 w4 : Int64} {h : td_H} (K : (s0 = 0 ∨ s0 = 1) ∧ Post (some (.int s0)) h) : td_J G d mX10_in Post 18 [(0, .long w0), (2, .long w2), (4, .long w4)] [.int s0] h := by
  obtain ⟨e18, K⟩ := K
  exact td_zreturn rfl (td_nb e18) dX10_in_18 K
set_option maxRecDepth 20000 in
theorem rX10_has_0 {G : td_G} {d : Nat} {Post : td_P} {x0 x1 : Int32} {h : td_H} (K : (¬ ((jshr x0 x1) &&& 1) = 1 → td_J G d mX10_has Post 14 [(0, .int x0), (1, .int x1)] [.int 0] h) ∧ (((jshr x0 x1) &&& 1) = 1 → td_J G d mX10_has Post 14 [(0, .int x0), (1, .int x1)] [.int 1] h)) : td_J G d mX10_has Post 0 [(0, .int x0), (1, .int x1)] [] h := by
  refine td_iload_n 0 dX10_has_0 rfl ?_
  refine td_iload_n 1 dX10_has_1 rfl ?_
  refine td_ishr dX10_has_2 ?_
  refine td_iconst (v := 1) dX10_has_3 (by decide) ?_
  refine td_iand dX10_has_4 ?_
  refine td_iconst (v := 1) dX10_has_5 (by decide) ?_
  obtain ⟨Kt, Kf⟩ := K
  refine td_icmp_ne (tgt := 13) dX10_has_6 (by decide) (fun q => ?_) (fun q => ?_)
  · have K := Kt q
    refine td_iconst (v := 0) dX10_has_13 (by decide) ?_
    exact K
  · have K := Kf q
    refine td_iconst (v := 1) dX10_has_9 (by decide) ?_
    refine td_goto (tgt := 14) dX10_has_10 (by decide) ?_
    exact K
set_option maxRecDepth 20000 in
theorem rX10_has_14 {G : td_G} {d : Nat} {Post : td_P} {x0 x1 s0 : Int32} {h : td_H} (K : (s0 = 0 ∨ s0 = 1) ∧ Post (some (.int s0)) h) : td_J G d mX10_has Post 14 [(0, .int x0), (1, .int x1)] [.int s0] h := by
  obtain ⟨e14, K⟩ := K
  exact td_zreturn rfl (td_nb e14) dX10_has_14 K
set_option maxRecDepth 20000 in
theorem rX10_ones_0 {G : td_G} {d : Nat} {Post : td_P} {x0 : Int32} {h : td_H} (K : td_J G d mX10_ones Post 4 [(0, .int x0), (1, .int 0), (2, .int x0)] [] h) : td_J G d mX10_ones Post 0 [(0, .int x0)] [] h := by
  refine td_iconst (v := 0) dX10_ones_0 (by decide) ?_
  refine td_istore_n (lv2 := [(0, .int x0), (1, .int 0)]) dX10_ones_1 (by decide) rfl ?_
  refine td_iload_n 0 dX10_ones_2 rfl ?_
  refine td_istore_n (lv2 := [(0, .int x0), (1, .int 0), (2, .int x0)]) dX10_ones_3 (by decide) rfl ?_
  exact K
set_option maxRecDepth 20000 in
theorem rX10_ones_4 {G : td_G} {d : Nat} {Post : td_P} {x0 x1 x2 : Int32} {h : td_H} (K : (x2 = 0 → (Post (some (.int x1)) h)) ∧ (¬ x2 = 0 → td_J G d mX10_ones Post 4 [(0, .int x0), (1, .int (x1 + 1)), (2, .int (x2 &&& (x2 - 1)))] [] h)) : td_J G d mX10_ones Post 4 [(0, .int x0), (1, .int x1), (2, .int x2)] [] h := by
  refine td_iload_n 2 dX10_ones_4 rfl ?_
  obtain ⟨Kt, Kf⟩ := K
  refine td_if_eq (tgt := 20) dX10_ones_5 (by decide) (fun q => ?_) (fun q => ?_)
  · have K := Kt q
    refine td_iload_n 1 dX10_ones_20 rfl ?_
    exact td_ireturn rfl dX10_ones_21 K
  · have K := Kf q
    refine td_iinc 1 (v := x1 + 1) (lv2 := [(0, .int x0), (1, .int (x1 + 1)), (2, .int x2)]) dX10_ones_8 rfl (congrArg (x1 + ·) (by decide)) (by decide) rfl ?_
    refine td_iload_n 2 dX10_ones_11 rfl ?_
    refine td_iload_n 2 dX10_ones_12 rfl ?_
    refine td_iconst (v := 1) dX10_ones_13 (by decide) ?_
    refine td_isub dX10_ones_14 ?_
    refine td_iand dX10_ones_15 ?_
    refine td_istore_n (lv2 := [(0, .int x0), (1, .int (x1 + 1)), (2, .int (x2 &&& (x2 - 1)))]) dX10_ones_16 (by decide) rfl ?_
    refine td_goto (tgt := 4) dX10_ones_17 (by decide) ?_
    exact K
set_option maxRecDepth 20000 in
theorem rX10_leastOf_0 {G : td_G} {d : Nat} {Post : td_P} {x0 : Int32} {h : td_H} (K : (¬ x0 = 0 → ((x0 = 3 → td_J G d mX10_leastOf Post 25 [(0, .int x0)] [] h) ∧ (¬ x0 = 3 → ((x0 = 6 → td_J G d mX10_leastOf Post 25 [(0, .int x0)] [] h) ∧ (¬ x0 = 6 → ((¬ x0 = 8 → td_J G d mX10_leastOf Post 30 [(0, .int x0)] [.int 1] h) ∧ (x0 = 8 → td_J G d mX10_leastOf Post 25 [(0, .int x0)] [] h))))))) ∧ (x0 = 0 → td_J G d mX10_leastOf Post 30 [(0, .int x0)] [.int 3] h)) : td_J G d mX10_leastOf Post 0 [(0, .int x0)] [] h := by
  refine td_iload_n 0 dX10_leastOf_0 rfl ?_
  obtain ⟨Kt, Kf⟩ := K
  refine td_if_ne (tgt := 8) dX10_leastOf_1 (by decide) (fun q => ?_) (fun q => ?_)
  · have K := Kt q
    refine td_iload_n 0 dX10_leastOf_8 rfl ?_
    refine td_iconst (v := 3) dX10_leastOf_9 (by decide) ?_
    obtain ⟨Kt, Kf⟩ := K
    refine td_icmp_eq (tgt := 25) dX10_leastOf_10 (by decide) (fun q => ?_) (fun q => ?_)
    · have K := Kt q
      exact K
    · have K := Kf q
      refine td_iload_n 0 dX10_leastOf_13 rfl ?_
      refine td_bipush (v := 6) dX10_leastOf_14 (by decide) ?_
      obtain ⟨Kt, Kf⟩ := K
      refine td_icmp_eq (tgt := 25) dX10_leastOf_16 (by decide) (fun q => ?_) (fun q => ?_)
      · have K := Kt q
        exact K
      · have K := Kf q
        refine td_iload_n 0 dX10_leastOf_19 rfl ?_
        refine td_bipush (v := 8) dX10_leastOf_20 (by decide) ?_
        obtain ⟨Kt, Kf⟩ := K
        refine td_icmp_ne (tgt := 29) dX10_leastOf_22 (by decide) (fun q => ?_) (fun q => ?_)
        · have K := Kt q
          refine td_iconst (v := 1) dX10_leastOf_29 (by decide) ?_
          exact K
        · have K := Kf q
          exact K
  · have K := Kf q
    refine td_iconst (v := 3) dX10_leastOf_4 (by decide) ?_
    refine td_goto (tgt := 30) dX10_leastOf_5 (by decide) ?_
    exact K
set_option maxRecDepth 20000 in
theorem rX10_leastOf_25 {G : td_G} {d : Nat} {Post : td_P} {x0 : Int32} {h : td_H} (K : td_J G d mX10_leastOf Post 30 [(0, .int x0)] [.int 0] h) : td_J G d mX10_leastOf Post 25 [(0, .int x0)] [] h := by
  refine td_iconst (v := 0) dX10_leastOf_25 (by decide) ?_
  refine td_goto (tgt := 30) dX10_leastOf_26 (by decide) ?_
  exact K
set_option maxRecDepth 20000 in
theorem rX10_leastOf_30 {G : td_G} {d : Nat} {Post : td_P} {x0 s0 : Int32} {h : td_H} (K : Post (some (.int s0)) h) : td_J G d mX10_leastOf Post 30 [(0, .int x0)] [.int s0] h := by
  exact td_ireturn rfl dX10_leastOf_30 K
set_option maxRecDepth 20000 in
theorem rX10_mostOf_0 {G : td_G} {d : Nat} {Post : td_P} {x0 : Int32} {h : td_H} (K : (¬ x0 = 0 → ((x0 = 1 → td_J G d mX10_mostOf Post 18 [(0, .int x0)] [] h) ∧ (¬ x0 = 1 → ((¬ x0 = 5 → ((¬ x0 = 2 → ((¬ x0 = 3 → ((¬ x0 = 8 → td_J G d mX10_mostOf Post 55 [(0, .int x0)] [.int 9] h) ∧ (x0 = 8 → td_J G d mX10_mostOf Post 55 [(0, .int x0)] [.int 120] h))) ∧ (x0 = 3 → td_J G d mX10_mostOf Post 55 [(0, .int x0)] [.int 20] h))) ∧ (x0 = 2 → td_J G d mX10_mostOf Post 55 [(0, .int x0)] [.int 6] h))) ∧ (x0 = 5 → td_J G d mX10_mostOf Post 18 [(0, .int x0)] [] h))))) ∧ (x0 = 0 → td_J G d mX10_mostOf Post 55 [(0, .int x0)] [.int 4] h)) : td_J G d mX10_mostOf Post 0 [(0, .int x0)] [] h := by
  refine td_iload_n 0 dX10_mostOf_0 rfl ?_
  obtain ⟨Kt, Kf⟩ := K
  refine td_if_ne (tgt := 8) dX10_mostOf_1 (by decide) (fun q => ?_) (fun q => ?_)
  · have K := Kt q
    refine td_iload_n 0 dX10_mostOf_8 rfl ?_
    refine td_iconst (v := 1) dX10_mostOf_9 (by decide) ?_
    obtain ⟨Kt, Kf⟩ := K
    refine td_icmp_eq (tgt := 18) dX10_mostOf_10 (by decide) (fun q => ?_) (fun q => ?_)
    · have K := Kt q
      exact K
    · have K := Kf q
      refine td_iload_n 0 dX10_mostOf_13 rfl ?_
      refine td_iconst (v := 5) dX10_mostOf_14 (by decide) ?_
      obtain ⟨Kt, Kf⟩ := K
      refine td_icmp_ne (tgt := 22) dX10_mostOf_15 (by decide) (fun q => ?_) (fun q => ?_)
      · have K := Kt q
        refine td_iload_n 0 dX10_mostOf_22 rfl ?_
        refine td_iconst (v := 2) dX10_mostOf_23 (by decide) ?_
        obtain ⟨Kt, Kf⟩ := K
        refine td_icmp_ne (tgt := 32) dX10_mostOf_24 (by decide) (fun q => ?_) (fun q => ?_)
        · have K := Kt q
          refine td_iload_n 0 dX10_mostOf_32 rfl ?_
          refine td_iconst (v := 3) dX10_mostOf_33 (by decide) ?_
          obtain ⟨Kt, Kf⟩ := K
          refine td_icmp_ne (tgt := 42) dX10_mostOf_34 (by decide) (fun q => ?_) (fun q => ?_)
          · have K := Kt q
            refine td_iload_n 0 dX10_mostOf_42 rfl ?_
            refine td_bipush (v := 8) dX10_mostOf_43 (by decide) ?_
            obtain ⟨Kt, Kf⟩ := K
            refine td_icmp_ne (tgt := 53) dX10_mostOf_45 (by decide) (fun q => ?_) (fun q => ?_)
            · have K := Kt q
              refine td_bipush (v := 9) dX10_mostOf_53 (by decide) ?_
              exact K
            · have K := Kf q
              refine td_bipush (v := 120) dX10_mostOf_48 (by decide) ?_
              refine td_goto (tgt := 55) dX10_mostOf_50 (by decide) ?_
              exact K
          · have K := Kf q
            refine td_bipush (v := 20) dX10_mostOf_37 (by decide) ?_
            refine td_goto (tgt := 55) dX10_mostOf_39 (by decide) ?_
            exact K
        · have K := Kf q
          refine td_bipush (v := 6) dX10_mostOf_27 (by decide) ?_
          refine td_goto (tgt := 55) dX10_mostOf_29 (by decide) ?_
          exact K
      · have K := Kf q
        exact K
  · have K := Kf q
    refine td_iconst (v := 4) dX10_mostOf_4 (by decide) ?_
    refine td_goto (tgt := 55) dX10_mostOf_5 (by decide) ?_
    exact K
set_option maxRecDepth 20000 in
theorem rX10_mostOf_18 {G : td_G} {d : Nat} {Post : td_P} {x0 : Int32} {h : td_H} (K : td_J G d mX10_mostOf Post 55 [(0, .int x0)] [.int 3] h) : td_J G d mX10_mostOf Post 18 [(0, .int x0)] [] h := by
  refine td_iconst (v := 3) dX10_mostOf_18 (by decide) ?_
  refine td_goto (tgt := 55) dX10_mostOf_19 (by decide) ?_
  exact K
set_option maxRecDepth 20000 in
theorem rX10_mostOf_55 {G : td_G} {d : Nat} {Post : td_P} {x0 s0 : Int32} {h : td_H} (K : Post (some (.int s0)) h) : td_J G d mX10_mostOf Post 55 [(0, .int x0)] [.int s0] h := by
  exact td_ireturn rfl dX10_mostOf_55 K
set_option maxRecDepth 20000 in
theorem rX10_set_0 {G : td_G} {d : Nat} {Post : td_P} {x1 x2 : Int32} {h : td_H} (K : td_J G d mX10_set Post 6 [(0, .ref 85), (1, .int x1), (2, .int x2)] [.long 8, .long 0, .long x1.toInt64] h) : td_J G d mX10_set Post 0 [(0, .ref 85), (1, .int x1), (2, .int x2)] [] h := by
  refine td_iload_n 1 dX10_set_0 rfl ?_
  refine td_i2l dX10_set_1 ?_
  refine td_lconst (v := 0) dX10_set_2 (by decide) ?_
  refine td_ldc2 (v := 8) kw_X10_73 dX10_set_3 ?_
  exact K
set_option maxRecDepth 20000 in
theorem rX10_set_9 {G : td_G} {d : Nat} {Post : td_P} {x1 x2 s0 : Int32} {h : td_H} (K : (s0 = 0 → td_J G d mX10_set Post 30 [(0, .ref 85), (1, .int x1), (2, .int x2)] [] h) ∧ (¬ s0 = 0 → td_J G d mX10_set Post 15 [(0, .ref 85), (1, .int x1), (2, .int x2)] [.int x1, .long x2.toInt64] h)) : td_J G d mX10_set Post 9 [(0, .ref 85), (1, .int x1), (2, .int x2)] [.int s0] h := by
  obtain ⟨Kt, Kf⟩ := K
  refine td_if_eq (tgt := 30) dX10_set_9 (by decide) (fun q => ?_) (fun q => ?_)
  · have K := Kt q
    exact K
  · have K := Kf q
    refine td_iload_n 2 dX10_set_12 rfl ?_
    refine td_i2l dX10_set_13 ?_
    refine td_iload_n 1 dX10_set_14 rfl ?_
    exact K
set_option maxRecDepth 20000 in
theorem rX10_set_18 {G : td_G} {d : Nat} {Post : td_P} {x1 x2 s1 : Int32} {u0 : Int64} {h : td_H} (K : td_J G d mX10_set Post 20 [(0, .ref 85), (1, .int x1), (2, .int x2)] [.int x1, .long s1.toInt64, .long u0] h) : td_J G d mX10_set Post 18 [(0, .ref 85), (1, .int x1), (2, .int x2)] [.int s1, .long u0] h := by
  refine td_i2l dX10_set_18 ?_
  refine td_iload_n 1 dX10_set_19 rfl ?_
  exact K
set_option maxRecDepth 20000 in
theorem rX10_set_23 {G : td_G} {d : Nat} {Post : td_P} {x1 x2 s2 : Int32} {u0 u1 : Int64} {h : td_H} (K : td_J G d mX10_set Post 24 [(0, .ref 85), (1, .int x1), (2, .int x2)] [.long s2.toInt64, .long u1, .long u0] h) : td_J G d mX10_set Post 23 [(0, .ref 85), (1, .int x1), (2, .int x2)] [.int s2, .long u1, .long u0] h := by
  refine td_i2l dX10_set_23 ?_
  exact K
set_option maxRecDepth 20000 in
theorem rX10_set_27 {G : td_G} {d : Nat} {Post : td_P} {x1 x2 s0 : Int32} {h : td_H} (K : (¬ s0 = 0 → (vp_in x1 46 ∧ (vp_in x1 46 ∧ (Post (some (.int (h 86 (ix x1)))) (hu h 86 (ix x1) x2))))) ∧ (s0 = 0 → td_J G d mX10_set Post 30 [(0, .ref 85), (1, .int x1), (2, .int x2)] [] h)) : td_J G d mX10_set Post 27 [(0, .ref 85), (1, .int x1), (2, .int x2)] [.int s0] h := by
  obtain ⟨Kt, Kf⟩ := K
  refine td_if_ne (tgt := 32) dX10_set_27 (by decide) (fun q => ?_) (fun q => ?_)
  · have K := Kt q
    refine td_aload_n 0 dX10_set_32 rfl ?_
    refine gf_X10_7 rfl kp_85 dX10_set_33 ?_
    refine td_iload_n 1 dX10_set_36 rfl ?_
    obtain ⟨e37, K⟩ := K
    refine td_ialdc (j := (ix x1)) kp_86 (by decide) e37 rfl dX10_set_37 ?_
    refine td_istore_n (lv2 := [(0, .ref 85), (1, .int x1), (2, .int x2), (3, .int (h 86 (ix x1)))]) dX10_set_38 (by decide) rfl ?_
    refine td_aload_n 0 dX10_set_39 rfl ?_
    refine gf_X10_7 rfl kp_85 dX10_set_40 ?_
    refine td_iload_n 1 dX10_set_43 rfl ?_
    refine td_iload_n 2 dX10_set_44 rfl ?_
    obtain ⟨e45, K⟩ := K
    refine td_iastc (j := (ix x1)) kp_86 (by decide) e45 rfl dX10_set_45 ?_
    refine td_iload_n 3 dX10_set_46 rfl ?_
    exact td_ireturn rfl dX10_set_47 K
  · have K := Kf q
    exact K
set_option maxRecDepth 20000 in
theorem rX10_set_30 {G : td_G} {d : Nat} {Post : td_P} {x1 x2 : Int32} {h : td_H} (K : Post (some (.int (-1))) h) : td_J G d mX10_set Post 30 [(0, .ref 85), (1, .int x1), (2, .int x2)] [] h := by
  refine td_iconst (v := (-1)) dX10_set_30 (by decide) ?_
  exact td_ireturn rfl dX10_set_31 K
set_option maxRecDepth 20000 in
theorem rX10_shareOf_0 {G : td_G} {d : Nat} {Post : td_P} {x1 x2 x3 : Int32} {h : td_H} (K : ¬ h 87 0 = 0 ∧ (td_J G d mX10_shareOf Post 17 [(0, .ref 85), (1, .int x1), (2, .int x2), (3, .int x3), (4, .int (12 / (h 87 0))), (5, .int 0), (6, .int 0)] [] h)) : td_J G d mX10_shareOf Post 0 [(0, .ref 85), (1, .int x1), (2, .int x2), (3, .int x3)] [] h := by
  refine td_bipush (v := 12) dX10_shareOf_0 (by decide) ?_
  refine td_aload_n 0 dX10_shareOf_2 rfl ?_
  refine gf_X10_13 rfl kp_85 dX10_shareOf_3 ?_
  refine td_iconst (v := 0) dX10_shareOf_6 (by decide) ?_
  refine td_ialdc (j := 0) kp_87 (by decide) (by unfold vp_in; decide) (by decide) dX10_shareOf_7 ?_
  obtain ⟨e8, K⟩ := K
  refine td_idiv dX10_shareOf_8 e8 ?_
  refine td_istore (lv2 := [(0, .ref 85), (1, .int x1), (2, .int x2), (3, .int x3), (4, .int (12 / (h 87 0)))]) dX10_shareOf_9 (by decide) rfl ?_
  refine td_iconst (v := 0) dX10_shareOf_11 (by decide) ?_
  refine td_istore (lv2 := [(0, .ref 85), (1, .int x1), (2, .int x2), (3, .int x3), (4, .int (12 / (h 87 0))), (5, .int 0)]) dX10_shareOf_12 (by decide) rfl ?_
  refine td_iconst (v := 0) dX10_shareOf_14 (by decide) ?_
  refine td_istore (lv2 := [(0, .ref 85), (1, .int x1), (2, .int x2), (3, .int x3), (4, .int (12 / (h 87 0))), (5, .int 0), (6, .int 0)]) dX10_shareOf_15 (by decide) rfl ?_
  exact K
set_option maxRecDepth 20000 in
theorem rX10_shareOf_17 {G : td_G} {d : Nat} {Post : td_P} {x1 x2 x3 x4 x5 x6 : Int32} {h : td_H} (K : (x4 ≤ x6 → (Post (some (.int x5)) h)) ∧ (¬ x4 ≤ x6 → td_J G d mX10_shareOf Post 55 [(0, .ref 85), (1, .int x1), (2, .int x2), (3, .int x3), (4, .int x4), (5, .int x5), (6, .int x6), (7, .int (jrem ((x3 + (x1 * x4)) + x6) 12))] [.long (((6 * x2) + 2).toInt64), .long ((6 * x2).toInt64), .long ((jrem ((x3 + (x1 * x4)) + x6) 12).toInt64), .int x5] h)) : td_J G d mX10_shareOf Post 17 [(0, .ref 85), (1, .int x1), (2, .int x2), (3, .int x3), (4, .int x4), (5, .int x5), (6, .int x6)] [] h := by
  refine td_iload 6 dX10_shareOf_17 rfl ?_
  refine td_iload 4 dX10_shareOf_19 rfl ?_
  obtain ⟨Kt, Kf⟩ := K
  refine td_icmp_ge (tgt := 75) dX10_shareOf_21 (by decide) (fun q => ?_) (fun q => ?_)
  · have K := Kt q
    refine td_iload 5 dX10_shareOf_75 rfl ?_
    exact td_ireturn rfl dX10_shareOf_77 K
  · have K := Kf q
    refine td_iload_n 3 dX10_shareOf_24 rfl ?_
    refine td_iload_n 1 dX10_shareOf_25 rfl ?_
    refine td_iload 4 dX10_shareOf_26 rfl ?_
    refine td_imul dX10_shareOf_28 ?_
    refine td_iadd dX10_shareOf_29 ?_
    refine td_iload 6 dX10_shareOf_30 rfl ?_
    refine td_iadd dX10_shareOf_32 ?_
    refine td_bipush (v := 12) dX10_shareOf_33 (by decide) ?_
    refine td_irem dX10_shareOf_35 (by decide) ?_
    refine td_istore (lv2 := [(0, .ref 85), (1, .int x1), (2, .int x2), (3, .int x3), (4, .int x4), (5, .int x5), (6, .int x6), (7, .int (jrem ((x3 + (x1 * x4)) + x6) 12))]) dX10_shareOf_36 (by decide) rfl ?_
    refine td_iload 5 dX10_shareOf_38 rfl ?_
    refine td_iload 7 dX10_shareOf_40 rfl ?_
    refine td_i2l dX10_shareOf_42 ?_
    refine td_bipush (v := 6) dX10_shareOf_43 (by decide) ?_
    refine td_iload_n 2 dX10_shareOf_45 rfl ?_
    refine td_imul dX10_shareOf_46 ?_
    refine td_i2l dX10_shareOf_47 ?_
    refine td_bipush (v := 6) dX10_shareOf_48 (by decide) ?_
    refine td_iload_n 2 dX10_shareOf_50 rfl ?_
    refine td_imul dX10_shareOf_51 ?_
    refine td_iconst (v := 2) dX10_shareOf_52 (by decide) ?_
    refine td_iadd dX10_shareOf_53 ?_
    refine td_i2l dX10_shareOf_54 ?_
    exact K
set_option maxRecDepth 20000 in
theorem rX10_shareOf_58 {G : td_G} {d : Nat} {Post : td_P} {x1 x2 x3 x4 x5 x6 x7 s0 s1 : Int32} {h : td_H} (K : (s1 = 0 → td_J G d mX10_shareOf Post 66 [(0, .ref 85), (1, .int x1), (2, .int x2), (3, .int x3), (4, .int x4), (5, .int x5), (6, .int x6), (7, .int x7)] [.int 0, .int s0] h) ∧ (¬ s1 = 0 → td_J G d mX10_shareOf Post 66 [(0, .ref 85), (1, .int x1), (2, .int x2), (3, .int x3), (4, .int x4), (5, .int x5), (6, .int x6), (7, .int x7)] [.int 1, .int s0] h)) : td_J G d mX10_shareOf Post 58 [(0, .ref 85), (1, .int x1), (2, .int x2), (3, .int x3), (4, .int x4), (5, .int x5), (6, .int x6), (7, .int x7)] [.int s1, .int s0] h := by
  obtain ⟨Kt, Kf⟩ := K
  refine td_if_eq (tgt := 65) dX10_shareOf_58 (by decide) (fun q => ?_) (fun q => ?_)
  · have K := Kt q
    refine td_iconst (v := 0) dX10_shareOf_65 (by decide) ?_
    exact K
  · have K := Kf q
    refine td_iconst (v := 1) dX10_shareOf_61 (by decide) ?_
    refine td_goto (tgt := 66) dX10_shareOf_62 (by decide) ?_
    exact K
set_option maxRecDepth 20000 in
theorem rX10_shareOf_66 {G : td_G} {d : Nat} {Post : td_P} {x1 x2 x3 x4 x5 x6 x7 s0 s1 : Int32} {h : td_H} (K : td_J G d mX10_shareOf Post 17 [(0, .ref 85), (1, .int x1), (2, .int x2), (3, .int x3), (4, .int x4), (5, .int (s0 + s1)), (6, .int (x6 + 1))] [] h) : td_J G d mX10_shareOf Post 66 [(0, .ref 85), (1, .int x1), (2, .int x2), (3, .int x3), (4, .int x4), (5, .int x5), (6, .int x6), (7, .int x7)] [.int s1, .int s0] h := by
  refine td_iadd dX10_shareOf_66 ?_
  refine td_istore (lv2 := [(0, .ref 85), (1, .int x1), (2, .int x2), (3, .int x3), (4, .int x4), (5, .int (s0 + s1)), (6, .int x6), (7, .int x7)]) dX10_shareOf_67 (by decide) rfl ?_
  refine td_iinc 6 (v := x6 + 1) (lv2 := [(0, .ref 85), (1, .int x1), (2, .int x2), (3, .int x3), (4, .int x4), (5, .int (s0 + s1)), (6, .int (x6 + 1)), (7, .int x7)]) dX10_shareOf_69 rfl (congrArg (x6 + ·) (by decide)) (by decide) rfl ?_
  refine td_goto (tgt := 17) dX10_shareOf_72 (by decide) ?_
  refine td_drop [0, 1, 2, 3, 4, 5, 6] rfl ?_
  exact K
set_option maxRecDepth 20000 in
theorem rX10_isOpen_0 {G : td_G} {d : Nat} {Post : td_P} {x1 x2 x3 : Int32} {h : td_H} (K : td_J G d mX10_isOpen Post 4 [(0, .ref 85), (1, .int x1), (2, .int x2), (3, .int x3)] [.int x3, .int x2, .int x1, .ref 85] h) : td_J G d mX10_isOpen Post 0 [(0, .ref 85), (1, .int x1), (2, .int x2), (3, .int x3)] [] h := by
  refine td_aload_n 0 dX10_isOpen_0 rfl ?_
  refine td_iload_n 1 dX10_isOpen_1 rfl ?_
  refine td_iload_n 2 dX10_isOpen_2 rfl ?_
  refine td_iload_n 3 dX10_isOpen_3 rfl ?_
  exact K
set_option maxRecDepth 20000 in
theorem rX10_isOpen_7 {G : td_G} {d : Nat} {Post : td_P} {x1 x2 x3 s0 : Int32} {h : td_H} (K : (s0 < (h 87 1) → td_J G d mX10_isOpen Post 21 [(0, .ref 85), (1, .int x1), (2, .int x2), (3, .int x3)] [.int 0] h) ∧ (¬ s0 < (h 87 1) → td_J G d mX10_isOpen Post 21 [(0, .ref 85), (1, .int x1), (2, .int x2), (3, .int x3)] [.int 1] h)) : td_J G d mX10_isOpen Post 7 [(0, .ref 85), (1, .int x1), (2, .int x2), (3, .int x3)] [.int s0] h := by
  refine td_aload_n 0 dX10_isOpen_7 rfl ?_
  refine gf_X10_13 rfl kp_85 dX10_isOpen_8 ?_
  refine td_iconst (v := 1) dX10_isOpen_11 (by decide) ?_
  refine td_ialdc (j := 1) kp_87 (by decide) (by unfold vp_in; decide) (by decide) dX10_isOpen_12 ?_
  obtain ⟨Kt, Kf⟩ := K
  refine td_icmp_lt (tgt := 20) dX10_isOpen_13 (by decide) (fun q => ?_) (fun q => ?_)
  · have K := Kt q
    refine td_iconst (v := 0) dX10_isOpen_20 (by decide) ?_
    exact K
  · have K := Kf q
    refine td_iconst (v := 1) dX10_isOpen_16 (by decide) ?_
    refine td_goto (tgt := 21) dX10_isOpen_17 (by decide) ?_
    exact K
set_option maxRecDepth 20000 in
theorem rX10_isOpen_21 {G : td_G} {d : Nat} {Post : td_P} {x1 x2 x3 s0 : Int32} {h : td_H} (K : (s0 = 0 ∨ s0 = 1) ∧ Post (some (.int s0)) h) : td_J G d mX10_isOpen Post 21 [(0, .ref 85), (1, .int x1), (2, .int x2), (3, .int x3)] [.int s0] h := by
  obtain ⟨e21, K⟩ := K
  exact td_zreturn rfl (td_nb e21) dX10_isOpen_21 K
set_option maxRecDepth 20000 in
theorem rX10_asTold_0 {G : td_G} {d : Nat} {Post : td_P} {h : td_H} (K : td_J G d mX10_asTold Post 2 [(0, .ref 85), (1, .int 0)] [] h) : td_J G d mX10_asTold Post 0 [(0, .ref 85)] [] h := by
  refine td_iconst (v := 0) dX10_asTold_0 (by decide) ?_
  refine td_istore_n (lv2 := [(0, .ref 85), (1, .int 0)]) dX10_asTold_1 (by decide) rfl ?_
  exact K
set_option maxRecDepth 20000 in
theorem rX10_asTold_2 {G : td_G} {d : Nat} {Post : td_P} {x1 : Int32} {h : td_H} (K : (8 < x1 → td_J G d mX10_asTold Post 34 [(0, .ref 85), (1, .int 0)] [] (hu h 85 2 (-4))) ∧ (¬ 8 < x1 → (vp_in x1 46 ∧ (vp_in x1 9 ∧ (td_J G d mX10_asTold Post 2 [(0, .ref 85), (1, .int (x1 + 1))] [] (hu h 87 (ix x1) (h 86 (ix x1)))))))) : td_J G d mX10_asTold Post 2 [(0, .ref 85), (1, .int x1)] [] h := by
  refine td_iload_n 1 dX10_asTold_2 rfl ?_
  refine td_bipush (v := 8) dX10_asTold_3 (by decide) ?_
  obtain ⟨Kt, Kf⟩ := K
  refine td_icmp_gt (tgt := 26) dX10_asTold_5 (by decide) (fun q => ?_) (fun q => ?_)
  · have K := Kt q
    refine td_aload_n 0 dX10_asTold_26 rfl ?_
    refine td_bipush (v := (-4)) dX10_asTold_27 (by decide) ?_
    refine pf_X10_90 rfl kp_85 dX10_asTold_29 ?_
    refine td_iconst (v := 0) dX10_asTold_32 (by decide) ?_
    refine td_istore_n (lv2 := [(0, .ref 85), (1, .int 0)]) dX10_asTold_33 (by decide) rfl ?_
    exact K
  · have K := Kf q
    refine td_aload_n 0 dX10_asTold_8 rfl ?_
    refine gf_X10_13 rfl kp_85 dX10_asTold_9 ?_
    refine td_iload_n 1 dX10_asTold_12 rfl ?_
    refine td_aload_n 0 dX10_asTold_13 rfl ?_
    refine gf_X10_7 rfl kp_85 dX10_asTold_14 ?_
    refine td_iload_n 1 dX10_asTold_17 rfl ?_
    obtain ⟨e18, K⟩ := K
    refine td_ialdc (j := (ix x1)) kp_86 (by decide) e18 rfl dX10_asTold_18 ?_
    obtain ⟨e19, K⟩ := K
    refine td_iastc (j := (ix x1)) kp_87 (by decide) e19 rfl dX10_asTold_19 ?_
    refine td_iinc 1 (v := x1 + 1) (lv2 := [(0, .ref 85), (1, .int (x1 + 1))]) dX10_asTold_20 rfl (congrArg (x1 + ·) (by decide)) (by decide) rfl ?_
    refine td_goto (tgt := 2) dX10_asTold_23 (by decide) ?_
    exact K
set_option maxRecDepth 20000 in
theorem rX10_asTold_34 {G : td_G} {d : Nat} {Post : td_P} {x1 : Int32} {h : td_H} (K : ((h 86 9) ≤ x1 → (Post none h)) ∧ (¬ (h 86 9) ≤ x1 → td_J G d mX10_asTold Post 53 [(0, .ref 85), (1, .int x1)] [.int 0, .int x1, .ref 85, .int x1, .ref 88] h)) : td_J G d mX10_asTold Post 34 [(0, .ref 85), (1, .int x1)] [] h := by
  refine td_iload_n 1 dX10_asTold_34 rfl ?_
  refine td_aload_n 0 dX10_asTold_35 rfl ?_
  refine gf_X10_7 rfl kp_85 dX10_asTold_36 ?_
  refine td_bipush (v := 9) dX10_asTold_39 (by decide) ?_
  refine td_ialdc (j := 9) kp_86 (by decide) (by unfold vp_in; decide) (by decide) dX10_asTold_41 ?_
  obtain ⟨Kt, Kf⟩ := K
  refine td_icmp_ge (tgt := 63) dX10_asTold_42 (by decide) (fun q => ?_) (fun q => ?_)
  · have K := Kt q
    exact td_return rfl dX10_asTold_63 K
  · have K := Kf q
    refine td_aload_n 0 dX10_asTold_45 rfl ?_
    refine gf_X10_16 rfl kp_85 dX10_asTold_46 ?_
    refine td_iload_n 1 dX10_asTold_49 rfl ?_
    refine td_aload_n 0 dX10_asTold_50 rfl ?_
    refine td_iload_n 1 dX10_asTold_51 rfl ?_
    refine td_iconst (v := 0) dX10_asTold_52 (by decide) ?_
    exact K
set_option maxRecDepth 20000 in
theorem rX10_asTold_56 {G : td_G} {d : Nat} {Post : td_P} {a0 na0 : Nat} {x1 s1 s2 : Int32} {h : td_H} (ha0 : td_kd a0 = 100 + na0) (ga0 : na0 ≠ 899) (K : vp_in s1 na0 ∧ (td_J G d mX10_asTold Post 34 [(0, .ref 85), (1, .int (x1 + 1))] [] (hu h a0 (ix s1) s2))) : td_J G d mX10_asTold Post 56 [(0, .ref 85), (1, .int x1)] [.int s2, .int s1, .ref a0] h := by
  obtain ⟨e56, K⟩ := K
  refine td_iastc (j := (ix s1)) ha0 ga0 e56 rfl dX10_asTold_56 ?_
  refine td_iinc 1 (v := x1 + 1) (lv2 := [(0, .ref 85), (1, .int (x1 + 1))]) dX10_asTold_57 rfl (congrArg (x1 + ·) (by decide)) (by decide) rfl ?_
  refine td_goto (tgt := 34) dX10_asTold_60 (by decide) ?_
  exact K
set_option maxRecDepth 20000 in
theorem rX10_isPart_0 {G : td_G} {d : Nat} {Post : td_P} {x1 : Int32} {h : td_H} (K : td_J G d mX10_isPart Post 12 [(0, .ref 85), (1, .int x1)] [.long (((h 86 0) - 1).toInt64), .long 0, .long x1.toInt64] h) : td_J G d mX10_isPart Post 0 [(0, .ref 85), (1, .int x1)] [] h := by
  refine td_iload_n 1 dX10_isPart_0 rfl ?_
  refine td_i2l dX10_isPart_1 ?_
  refine td_lconst (v := 0) dX10_isPart_2 (by decide) ?_
  refine td_aload_n 0 dX10_isPart_3 rfl ?_
  refine gf_X10_7 rfl kp_85 dX10_isPart_4 ?_
  refine td_iconst (v := 0) dX10_isPart_7 (by decide) ?_
  refine td_ialdc (j := 0) kp_86 (by decide) (by unfold vp_in; decide) (by decide) dX10_isPart_8 ?_
  refine td_iconst (v := 1) dX10_isPart_9 (by decide) ?_
  refine td_isub dX10_isPart_10 ?_
  refine td_i2l dX10_isPart_11 ?_
  exact K
set_option maxRecDepth 20000 in
theorem rX10_isPart_15 {G : td_G} {d : Nat} {Post : td_P} {x1 s0 : Int32} {h : td_H} (K : (s0 = 0 ∨ s0 = 1) ∧ Post (some (.int s0)) h) : td_J G d mX10_isPart Post 15 [(0, .ref 85), (1, .int x1)] [.int s0] h := by
  obtain ⟨e15, K⟩ := K
  exact td_zreturn rfl (td_nb e15) dX10_isPart_15 K
set_option maxRecDepth 20000 in
theorem rX10_share_0 {G : td_G} {d : Nat} {Post : td_P} {x1 x2 x3 : Int32} {h : td_H} (K : td_J G d mX10_share Post 2 [(0, .ref 85), (1, .int x1), (2, .int x2), (3, .int x3)] [.int x1, .ref 85] h) : td_J G d mX10_share Post 0 [(0, .ref 85), (1, .int x1), (2, .int x2), (3, .int x3)] [] h := by
  refine td_aload_n 0 dX10_share_0 rfl ?_
  refine td_iload_n 1 dX10_share_1 rfl ?_
  exact K
set_option maxRecDepth 20000 in
theorem rX10_share_5 {G : td_G} {d : Nat} {Post : td_P} {x1 x2 x3 s0 : Int32} {h : td_H} (K : (s0 = 0 → td_J G d mX10_share Post 30 [(0, .ref 85), (1, .int x1), (2, .int x2), (3, .int x3)] [] h) ∧ (¬ s0 = 0 → td_J G d mX10_share Post 12 [(0, .ref 85), (1, .int x1), (2, .int x2), (3, .int x3)] [.long 1, .long 0, .long x2.toInt64] h)) : td_J G d mX10_share Post 5 [(0, .ref 85), (1, .int x1), (2, .int x2), (3, .int x3)] [.int s0] h := by
  obtain ⟨Kt, Kf⟩ := K
  refine td_if_eq (tgt := 30) dX10_share_5 (by decide) (fun q => ?_) (fun q => ?_)
  · have K := Kt q
    exact K
  · have K := Kf q
    refine td_iload_n 2 dX10_share_8 rfl ?_
    refine td_i2l dX10_share_9 ?_
    refine td_lconst (v := 0) dX10_share_10 (by decide) ?_
    refine td_lconst (v := 1) dX10_share_11 (by decide) ?_
    exact K
set_option maxRecDepth 20000 in
theorem rX10_share_15 {G : td_G} {d : Nat} {Post : td_P} {x1 x2 x3 s0 : Int32} {h : td_H} (K : (s0 = 0 → td_J G d mX10_share Post 30 [(0, .ref 85), (1, .int x1), (2, .int x2), (3, .int x3)] [] h) ∧ (¬ s0 = 0 → td_J G d mX10_share Post 24 [(0, .ref 85), (1, .int x1), (2, .int x2), (3, .int x3)] [.long 11, .long 0, .long x3.toInt64] h)) : td_J G d mX10_share Post 15 [(0, .ref 85), (1, .int x1), (2, .int x2), (3, .int x3)] [.int s0] h := by
  obtain ⟨Kt, Kf⟩ := K
  refine td_if_eq (tgt := 30) dX10_share_15 (by decide) (fun q => ?_) (fun q => ?_)
  · have K := Kt q
    exact K
  · have K := Kf q
    refine td_iload_n 3 dX10_share_18 rfl ?_
    refine td_i2l dX10_share_19 ?_
    refine td_lconst (v := 0) dX10_share_20 (by decide) ?_
    refine td_ldc2 (v := 11) kw_X10_102 dX10_share_21 ?_
    exact K
set_option maxRecDepth 20000 in
theorem rX10_share_27 {G : td_G} {d : Nat} {Post : td_P} {x1 x2 x3 s0 : Int32} {h : td_H} (K : (¬ s0 = 0 → td_J G d mX10_share Post 33 [(0, .ref 85), (1, .int x1), (2, .int x2), (3, .int x3)] [.ref 85] h) ∧ (s0 = 0 → td_J G d mX10_share Post 30 [(0, .ref 85), (1, .int x1), (2, .int x2), (3, .int x3)] [] h)) : td_J G d mX10_share Post 27 [(0, .ref 85), (1, .int x1), (2, .int x2), (3, .int x3)] [.int s0] h := by
  obtain ⟨Kt, Kf⟩ := K
  refine td_if_ne (tgt := 32) dX10_share_27 (by decide) (fun q => ?_) (fun q => ?_)
  · have K := Kt q
    refine td_aload_n 0 dX10_share_32 rfl ?_
    exact K
  · have K := Kf q
    exact K
set_option maxRecDepth 20000 in
theorem rX10_share_30 {G : td_G} {d : Nat} {Post : td_P} {x1 x2 x3 : Int32} {h : td_H} (K : Post (some (.int (-1))) h) : td_J G d mX10_share Post 30 [(0, .ref 85), (1, .int x1), (2, .int x2), (3, .int x3)] [] h := by
  refine td_iconst (v := (-1)) dX10_share_30 (by decide) ?_
  exact td_ireturn rfl dX10_share_31 K
set_option maxRecDepth 20000 in
theorem rX10_share_36 {G : td_G} {d : Nat} {Post : td_P} {x1 x2 x3 : Int32} {h : td_H} (K : td_J G d mX10_share Post 40 [(0, .ref 85), (1, .int x1), (2, .int x2), (3, .int x3)] [.int x3, .int x2, .int x1, .ref 85] h) : td_J G d mX10_share Post 36 [(0, .ref 85), (1, .int x1), (2, .int x2), (3, .int x3)] [] h := by
  refine td_aload_n 0 dX10_share_36 rfl ?_
  refine td_iload_n 1 dX10_share_37 rfl ?_
  refine td_iload_n 2 dX10_share_38 rfl ?_
  refine td_iload_n 3 dX10_share_39 rfl ?_
  exact K
set_option maxRecDepth 20000 in
theorem rX10_share_43 {G : td_G} {d : Nat} {Post : td_P} {x1 x2 x3 s0 : Int32} {h : td_H} (K : Post (some (.int s0)) h) : td_J G d mX10_share Post 43 [(0, .ref 85), (1, .int x1), (2, .int x2), (3, .int x3)] [.int s0] h := by
  exact td_ireturn rfl dX10_share_43 K
set_option maxRecDepth 20000 in
theorem rX10_open_0 {G : td_G} {d : Nat} {Post : td_P} {x1 x2 : Int32} {h : td_H} (K : td_J G d mX10_open Post 4 [(0, .ref 85), (1, .int x1), (2, .int x2)] [.long 1, .long 0, .long x1.toInt64] h) : td_J G d mX10_open Post 0 [(0, .ref 85), (1, .int x1), (2, .int x2)] [] h := by
  refine td_iload_n 1 dX10_open_0 rfl ?_
  refine td_i2l dX10_open_1 ?_
  refine td_lconst (v := 0) dX10_open_2 (by decide) ?_
  refine td_lconst (v := 1) dX10_open_3 (by decide) ?_
  exact K
set_option maxRecDepth 20000 in
theorem rX10_open_7 {G : td_G} {d : Nat} {Post : td_P} {x1 x2 s0 : Int32} {h : td_H} (K : (s0 = 0 → td_J G d mX10_open Post 22 [(0, .ref 85), (1, .int x1), (2, .int x2)] [] h) ∧ (¬ s0 = 0 → td_J G d mX10_open Post 16 [(0, .ref 85), (1, .int x1), (2, .int x2)] [.long 11, .long 0, .long x2.toInt64] h)) : td_J G d mX10_open Post 7 [(0, .ref 85), (1, .int x1), (2, .int x2)] [.int s0] h := by
  obtain ⟨Kt, Kf⟩ := K
  refine td_if_eq (tgt := 22) dX10_open_7 (by decide) (fun q => ?_) (fun q => ?_)
  · have K := Kt q
    exact K
  · have K := Kf q
    refine td_iload_n 2 dX10_open_10 rfl ?_
    refine td_i2l dX10_open_11 ?_
    refine td_lconst (v := 0) dX10_open_12 (by decide) ?_
    refine td_ldc2 (v := 11) kw_X10_102 dX10_open_13 ?_
    exact K
set_option maxRecDepth 20000 in
theorem rX10_open_19 {G : td_G} {d : Nat} {Post : td_P} {x1 x2 s0 : Int32} {h : td_H} (K : (¬ s0 = 0 → td_J G d mX10_open Post 25 [(0, .ref 85), (1, .int x1), (2, .int x2)] [.ref 85] h) ∧ (s0 = 0 → td_J G d mX10_open Post 22 [(0, .ref 85), (1, .int x1), (2, .int x2)] [] h)) : td_J G d mX10_open Post 19 [(0, .ref 85), (1, .int x1), (2, .int x2)] [.int s0] h := by
  obtain ⟨Kt, Kf⟩ := K
  refine td_if_ne (tgt := 24) dX10_open_19 (by decide) (fun q => ?_) (fun q => ?_)
  · have K := Kt q
    refine td_aload_n 0 dX10_open_24 rfl ?_
    exact K
  · have K := Kf q
    exact K
set_option maxRecDepth 20000 in
theorem rX10_open_22 {G : td_G} {d : Nat} {Post : td_P} {x1 x2 : Int32} {h : td_H} (K : Post (some (.int (-1))) h) : td_J G d mX10_open Post 22 [(0, .ref 85), (1, .int x1), (2, .int x2)] [] h := by
  refine td_iconst (v := (-1)) dX10_open_22 (by decide) ?_
  exact td_ireturn rfl dX10_open_23 K
set_option maxRecDepth 20000 in
theorem rX10_open_28 {G : td_G} {d : Nat} {Post : td_P} {x1 x2 : Int32} {h : td_H} (K : td_J G d mX10_open Post 33 [(0, .ref 85), (1, .int x1), (2, .int x2), (3, .int 0), (4, .int 0)] [] h) : td_J G d mX10_open Post 28 [(0, .ref 85), (1, .int x1), (2, .int x2)] [] h := by
  refine td_iconst (v := 0) dX10_open_28 (by decide) ?_
  refine td_istore_n (lv2 := [(0, .ref 85), (1, .int x1), (2, .int x2), (3, .int 0)]) dX10_open_29 (by decide) rfl ?_
  refine td_iconst (v := 0) dX10_open_30 (by decide) ?_
  refine td_istore (lv2 := [(0, .ref 85), (1, .int x1), (2, .int x2), (3, .int 0), (4, .int 0)]) dX10_open_31 (by decide) rfl ?_
  exact K
set_option maxRecDepth 20000 in
theorem rX10_open_33 {G : td_G} {d : Nat} {Post : td_P} {x1 x2 x3 x4 : Int32} {h : td_H} (K : ((h 86 0) ≤ x4 → (Post (some (.int x3)) h)) ∧ (¬ (h 86 0) ≤ x4 → td_J G d mX10_open Post 50 [(0, .ref 85), (1, .int x1), (2, .int x2), (3, .int x3), (4, .int x4)] [.int x2, .int x1, .int x4, .ref 85, .int x3] h)) : td_J G d mX10_open Post 33 [(0, .ref 85), (1, .int x1), (2, .int x2), (3, .int x3), (4, .int x4)] [] h := by
  refine td_iload 4 dX10_open_33 rfl ?_
  refine td_aload_n 0 dX10_open_35 rfl ?_
  refine gf_X10_7 rfl kp_85 dX10_open_36 ?_
  refine td_iconst (v := 0) dX10_open_39 (by decide) ?_
  refine td_ialdc (j := 0) kp_86 (by decide) (by unfold vp_in; decide) (by decide) dX10_open_40 ?_
  obtain ⟨Kt, Kf⟩ := K
  refine td_icmp_ge (tgt := 72) dX10_open_41 (by decide) (fun q => ?_) (fun q => ?_)
  · have K := Kt q
    refine td_iload_n 3 dX10_open_72 rfl ?_
    exact td_ireturn rfl dX10_open_73 K
  · have K := Kf q
    refine td_iload_n 3 dX10_open_44 rfl ?_
    refine td_aload_n 0 dX10_open_45 rfl ?_
    refine td_iload 4 dX10_open_46 rfl ?_
    refine td_iload_n 1 dX10_open_48 rfl ?_
    refine td_iload_n 2 dX10_open_49 rfl ?_
    exact K
set_option maxRecDepth 20000 in
theorem rX10_open_53 {G : td_G} {d : Nat} {Post : td_P} {x1 x2 x3 x4 s0 s1 : Int32} {h : td_H} (K : (s1 = 0 → td_J G d mX10_open Post 64 [(0, .ref 85), (1, .int x1), (2, .int x2), (3, .int x3), (4, .int x4)] [.int 0, .int s0] h) ∧ (¬ s1 = 0 → td_J G d mX10_open Post 64 [(0, .ref 85), (1, .int x1), (2, .int x2), (3, .int x3), (4, .int x4)] [.int (jshl 1 x4), .int s0] h)) : td_J G d mX10_open Post 53 [(0, .ref 85), (1, .int x1), (2, .int x2), (3, .int x3), (4, .int x4)] [.int s1, .int s0] h := by
  obtain ⟨Kt, Kf⟩ := K
  refine td_if_eq (tgt := 63) dX10_open_53 (by decide) (fun q => ?_) (fun q => ?_)
  · have K := Kt q
    refine td_iconst (v := 0) dX10_open_63 (by decide) ?_
    exact K
  · have K := Kf q
    refine td_iconst (v := 1) dX10_open_56 (by decide) ?_
    refine td_iload 4 dX10_open_57 rfl ?_
    refine td_ishl dX10_open_59 ?_
    refine td_goto (tgt := 64) dX10_open_60 (by decide) ?_
    exact K
set_option maxRecDepth 20000 in
theorem rX10_open_64 {G : td_G} {d : Nat} {Post : td_P} {x1 x2 x3 x4 s0 s1 : Int32} {h : td_H} (K : td_J G d mX10_open Post 33 [(0, .ref 85), (1, .int x1), (2, .int x2), (3, .int (s0 ||| s1)), (4, .int (x4 + 1))] [] h) : td_J G d mX10_open Post 64 [(0, .ref 85), (1, .int x1), (2, .int x2), (3, .int x3), (4, .int x4)] [.int s1, .int s0] h := by
  refine td_ior dX10_open_64 ?_
  refine td_istore_n (lv2 := [(0, .ref 85), (1, .int x1), (2, .int x2), (3, .int (s0 ||| s1)), (4, .int x4)]) dX10_open_65 (by decide) rfl ?_
  refine td_iinc 4 (v := x4 + 1) (lv2 := [(0, .ref 85), (1, .int x1), (2, .int x2), (3, .int (s0 ||| s1)), (4, .int (x4 + 1))]) dX10_open_66 rfl (congrArg (x4 + ·) (by decide)) (by decide) rfl ?_
  refine td_goto (tgt := 33) dX10_open_69 (by decide) ?_
  exact K
set_option maxRecDepth 20000 in
theorem rX10_of_0 {G : td_G} {d : Nat} {Post : td_P} {x1 x2 : Int32} {h : td_H} (K : vp_in ((10 + (3 * x1)) + x2) 46 ∧ (Post (some (.int (h 86 (ix ((10 + (3 * x1)) + x2))))) h)) : td_J G d mX10_of Post 0 [(0, .ref 85), (1, .int x1), (2, .int x2)] [] h := by
  refine td_aload_n 0 dX10_of_0 rfl ?_
  refine gf_X10_7 rfl kp_85 dX10_of_1 ?_
  refine td_bipush (v := 10) dX10_of_4 (by decide) ?_
  refine td_iconst (v := 3) dX10_of_6 (by decide) ?_
  refine td_iload_n 1 dX10_of_7 rfl ?_
  refine td_imul dX10_of_8 ?_
  refine td_iadd dX10_of_9 ?_
  refine td_iload_n 2 dX10_of_10 rfl ?_
  refine td_iadd dX10_of_11 ?_
  obtain ⟨e12, K⟩ := K
  refine td_ialdc (j := (ix ((10 + (3 * x1)) + x2))) kp_86 (by decide) e12 rfl dX10_of_12 ?_
  exact td_ireturn rfl dX10_of_13 K
set_option maxRecDepth 20000 in
theorem rX10_isPerson_0 {G : td_G} {d : Nat} {Post : td_P} {x1 : Int32} {h : td_H} (K : td_J G d mX10_isPerson Post 13 [(0, .ref 85), (1, .int x1)] [.long (((h 86 9) - 1).toInt64), .long 0, .long x1.toInt64] h) : td_J G d mX10_isPerson Post 0 [(0, .ref 85), (1, .int x1)] [] h := by
  refine td_iload_n 1 dX10_isPerson_0 rfl ?_
  refine td_i2l dX10_isPerson_1 ?_
  refine td_lconst (v := 0) dX10_isPerson_2 (by decide) ?_
  refine td_aload_n 0 dX10_isPerson_3 rfl ?_
  refine gf_X10_7 rfl kp_85 dX10_isPerson_4 ?_
  refine td_bipush (v := 9) dX10_isPerson_7 (by decide) ?_
  refine td_ialdc (j := 9) kp_86 (by decide) (by unfold vp_in; decide) (by decide) dX10_isPerson_9 ?_
  refine td_iconst (v := 1) dX10_isPerson_10 (by decide) ?_
  refine td_isub dX10_isPerson_11 ?_
  refine td_i2l dX10_isPerson_12 ?_
  exact K
set_option maxRecDepth 20000 in
theorem rX10_isPerson_16 {G : td_G} {d : Nat} {Post : td_P} {x1 s0 : Int32} {h : td_H} (K : (s0 = 0 ∨ s0 = 1) ∧ Post (some (.int s0)) h) : td_J G d mX10_isPerson Post 16 [(0, .ref 85), (1, .int x1)] [.int s0] h := by
  obtain ⟨e16, K⟩ := K
  exact td_zreturn rfl (td_nb e16) dX10_isPerson_16 K
set_option maxRecDepth 20000 in
theorem rX10_sizeOf_0 {G : td_G} {d : Nat} {Post : td_P} {x0 : Int32} {h : td_H} (K : (¬ x0 = 1 → ((¬ x0 = 2 → td_J G d mX10_sizeOf Post 19 [(0, .int x0)] [.int 1] h) ∧ (x0 = 2 → td_J G d mX10_sizeOf Post 19 [(0, .int x0)] [.int 3] h))) ∧ (x0 = 1 → td_J G d mX10_sizeOf Post 19 [(0, .int x0)] [.int 2] h)) : td_J G d mX10_sizeOf Post 0 [(0, .int x0)] [] h := by
  refine td_iload_n 0 dX10_sizeOf_0 rfl ?_
  refine td_iconst (v := 1) dX10_sizeOf_1 (by decide) ?_
  obtain ⟨Kt, Kf⟩ := K
  refine td_icmp_ne (tgt := 9) dX10_sizeOf_2 (by decide) (fun q => ?_) (fun q => ?_)
  · have K := Kt q
    refine td_iload_n 0 dX10_sizeOf_9 rfl ?_
    refine td_iconst (v := 2) dX10_sizeOf_10 (by decide) ?_
    obtain ⟨Kt, Kf⟩ := K
    refine td_icmp_ne (tgt := 18) dX10_sizeOf_11 (by decide) (fun q => ?_) (fun q => ?_)
    · have K := Kt q
      refine td_iconst (v := 1) dX10_sizeOf_18 (by decide) ?_
      exact K
    · have K := Kf q
      refine td_iconst (v := 3) dX10_sizeOf_14 (by decide) ?_
      refine td_goto (tgt := 19) dX10_sizeOf_15 (by decide) ?_
      exact K
  · have K := Kf q
    refine td_iconst (v := 2) dX10_sizeOf_5 (by decide) ?_
    refine td_goto (tgt := 19) dX10_sizeOf_6 (by decide) ?_
    exact K
set_option maxRecDepth 20000 in
theorem rX10_sizeOf_19 {G : td_G} {d : Nat} {Post : td_P} {x0 s0 : Int32} {h : td_H} (K : Post (some (.int s0)) h) : td_J G d mX10_sizeOf Post 19 [(0, .int x0)] [.int s0] h := by
  exact td_ireturn rfl dX10_sizeOf_19 K
set_option maxRecDepth 20000 in
theorem rX10_pushOf_0 {G : td_G} {d : Nat} {Post : td_P} {x0 : Int32} {h : td_H} (K : (x0 = 1 → td_J G d mX10_pushOf Post 10 [(0, .int x0)] [] h) ∧ (¬ x0 = 1 → ((¬ x0 = 2 → ((¬ x0 = 3 → ((¬ x0 = 4 → td_J G d mX10_pushOf Post 33 [(0, .int x0)] [.int 2] h) ∧ (x0 = 4 → td_J G d mX10_pushOf Post 33 [(0, .int x0)] [.int 4] h))) ∧ (x0 = 3 → td_J G d mX10_pushOf Post 33 [(0, .int x0)] [.int 0] h))) ∧ (x0 = 2 → td_J G d mX10_pushOf Post 10 [(0, .int x0)] [] h)))) : td_J G d mX10_pushOf Post 0 [(0, .int x0)] [] h := by
  refine td_iload_n 0 dX10_pushOf_0 rfl ?_
  refine td_iconst (v := 1) dX10_pushOf_1 (by decide) ?_
  obtain ⟨Kt, Kf⟩ := K
  refine td_icmp_eq (tgt := 10) dX10_pushOf_2 (by decide) (fun q => ?_) (fun q => ?_)
  · have K := Kt q
    exact K
  · have K := Kf q
    refine td_iload_n 0 dX10_pushOf_5 rfl ?_
    refine td_iconst (v := 2) dX10_pushOf_6 (by decide) ?_
    obtain ⟨Kt, Kf⟩ := K
    refine td_icmp_ne (tgt := 14) dX10_pushOf_7 (by decide) (fun q => ?_) (fun q => ?_)
    · have K := Kt q
      refine td_iload_n 0 dX10_pushOf_14 rfl ?_
      refine td_iconst (v := 3) dX10_pushOf_15 (by decide) ?_
      obtain ⟨Kt, Kf⟩ := K
      refine td_icmp_ne (tgt := 23) dX10_pushOf_16 (by decide) (fun q => ?_) (fun q => ?_)
      · have K := Kt q
        refine td_iload_n 0 dX10_pushOf_23 rfl ?_
        refine td_iconst (v := 4) dX10_pushOf_24 (by decide) ?_
        obtain ⟨Kt, Kf⟩ := K
        refine td_icmp_ne (tgt := 32) dX10_pushOf_25 (by decide) (fun q => ?_) (fun q => ?_)
        · have K := Kt q
          refine td_iconst (v := 2) dX10_pushOf_32 (by decide) ?_
          exact K
        · have K := Kf q
          refine td_iconst (v := 4) dX10_pushOf_28 (by decide) ?_
          refine td_goto (tgt := 33) dX10_pushOf_29 (by decide) ?_
          exact K
      · have K := Kf q
        refine td_iconst (v := 0) dX10_pushOf_19 (by decide) ?_
        refine td_goto (tgt := 33) dX10_pushOf_20 (by decide) ?_
        exact K
    · have K := Kf q
      exact K
set_option maxRecDepth 20000 in
theorem rX10_pushOf_10 {G : td_G} {d : Nat} {Post : td_P} {x0 : Int32} {h : td_H} (K : td_J G d mX10_pushOf Post 33 [(0, .int x0)] [.int 1] h) : td_J G d mX10_pushOf Post 10 [(0, .int x0)] [] h := by
  refine td_iconst (v := 1) dX10_pushOf_10 (by decide) ?_
  refine td_goto (tgt := 33) dX10_pushOf_11 (by decide) ?_
  exact K
set_option maxRecDepth 20000 in
theorem rX10_pushOf_33 {G : td_G} {d : Nat} {Post : td_P} {x0 s0 : Int32} {h : td_H} (K : Post (some (.int s0)) h) : td_J G d mX10_pushOf Post 33 [(0, .int x0)] [.int s0] h := by
  exact td_ireturn rfl dX10_pushOf_33 K
set_option maxRecDepth 20000 in
theorem rX10_add_0 {G : td_G} {d : Nat} {Post : td_P} {x1 x2 x3 : Int32} {h : td_H} (K : vp_in (10 + (3 * (h 86 9))) 46 ∧ (vp_in ((10 + (3 * (h 86 9))) + 1) 46 ∧ (vp_in ((10 + (3 * (h 86 9))) + 2) 46 ∧ (Post none (hu (hu (hu (hu h 86 (ix (10 + (3 * (h 86 9)))) x1) 86 (ix ((10 + (3 * (h 86 9))) + 1)) x2) 86 (ix ((10 + (3 * (h 86 9))) + 2)) x3) 86 9 (((hu (hu (hu h 86 (ix (10 + (3 * (h 86 9)))) x1) 86 (ix ((10 + (3 * (h 86 9))) + 1)) x2) 86 (ix ((10 + (3 * (h 86 9))) + 2)) x3) 86 9) + 1)))))) : td_J G d mX10_add Post 0 [(0, .ref 85), (1, .int x1), (2, .int x2), (3, .int x3)] [] h := by
  refine td_bipush (v := 10) dX10_add_0 (by decide) ?_
  refine td_iconst (v := 3) dX10_add_2 (by decide) ?_
  refine td_aload_n 0 dX10_add_3 rfl ?_
  refine gf_X10_7 rfl kp_85 dX10_add_4 ?_
  refine td_bipush (v := 9) dX10_add_7 (by decide) ?_
  refine td_ialdc (j := 9) kp_86 (by decide) (by unfold vp_in; decide) (by decide) dX10_add_9 ?_
  refine td_imul dX10_add_10 ?_
  refine td_iadd dX10_add_11 ?_
  refine td_istore (lv2 := [(0, .ref 85), (1, .int x1), (2, .int x2), (3, .int x3), (4, .int (10 + (3 * (h 86 9))))]) dX10_add_12 (by decide) rfl ?_
  refine td_aload_n 0 dX10_add_14 rfl ?_
  refine gf_X10_7 rfl kp_85 dX10_add_15 ?_
  refine td_iload 4 dX10_add_18 rfl ?_
  refine td_iload_n 1 dX10_add_20 rfl ?_
  obtain ⟨e21, K⟩ := K
  refine td_iastc (j := (ix (10 + (3 * (h 86 9))))) kp_86 (by decide) e21 rfl dX10_add_21 ?_
  refine td_aload_n 0 dX10_add_22 rfl ?_
  refine gf_X10_7 rfl kp_85 dX10_add_23 ?_
  refine td_iload 4 dX10_add_26 rfl ?_
  refine td_iconst (v := 1) dX10_add_28 (by decide) ?_
  refine td_iadd dX10_add_29 ?_
  refine td_iload_n 2 dX10_add_30 rfl ?_
  obtain ⟨e31, K⟩ := K
  refine td_iastc (j := (ix ((10 + (3 * (h 86 9))) + 1))) kp_86 (by decide) e31 rfl dX10_add_31 ?_
  refine td_aload_n 0 dX10_add_32 rfl ?_
  refine gf_X10_7 rfl kp_85 dX10_add_33 ?_
  refine td_iload 4 dX10_add_36 rfl ?_
  refine td_iconst (v := 2) dX10_add_38 (by decide) ?_
  refine td_iadd dX10_add_39 ?_
  refine td_iload_n 3 dX10_add_40 rfl ?_
  obtain ⟨e41, K⟩ := K
  refine td_iastc (j := (ix ((10 + (3 * (h 86 9))) + 2))) kp_86 (by decide) e41 rfl dX10_add_41 ?_
  refine td_aload_n 0 dX10_add_42 rfl ?_
  refine gf_X10_7 rfl kp_85 dX10_add_43 ?_
  refine td_bipush (v := 9) dX10_add_46 (by decide) ?_
  refine td_dup2 dX10_add_48 rfl rfl ?_
  refine td_ialdc (j := 9) kp_86 (by decide) (by unfold vp_in; decide) (by decide) dX10_add_49 ?_
  refine td_iconst (v := 1) dX10_add_50 (by decide) ?_
  refine td_iadd dX10_add_51 ?_
  refine td_iastc (j := 9) kp_86 (by decide) (by unfold vp_in; decide) (by decide) dX10_add_52 ?_
  exact td_return rfl dX10_add_53 K
set_option maxRecDepth 20000 in
theorem rX10_person_0 {G : td_G} {d : Nat} {Post : td_P} {x1 x2 x3 : Int32} {h : td_H} (K : td_J G d mX10_person Post 6 [(0, .ref 85), (1, .int x1), (2, .int x2), (3, .int x3)] [.long 119, .long 0, .long x1.toInt64] h) : td_J G d mX10_person Post 0 [(0, .ref 85), (1, .int x1), (2, .int x2), (3, .int x3)] [] h := by
  refine td_iload_n 1 dX10_person_0 rfl ?_
  refine td_i2l dX10_person_1 ?_
  refine td_lconst (v := 0) dX10_person_2 (by decide) ?_
  refine td_ldc2 (v := 119) kw_X10_111 dX10_person_3 ?_
  exact K
set_option maxRecDepth 20000 in
theorem rX10_person_9 {G : td_G} {d : Nat} {Post : td_P} {x1 x2 x3 s0 : Int32} {h : td_H} (K : (s0 = 0 → td_J G d mX10_person Post 34 [(0, .ref 85), (1, .int x1), (2, .int x2), (3, .int x3)] [] h) ∧ (¬ s0 = 0 → td_J G d mX10_person Post 16 [(0, .ref 85), (1, .int x1), (2, .int x2), (3, .int x3)] [.long 1, .long 0, .long x2.toInt64] h)) : td_J G d mX10_person Post 9 [(0, .ref 85), (1, .int x1), (2, .int x2), (3, .int x3)] [.int s0] h := by
  obtain ⟨Kt, Kf⟩ := K
  refine td_if_eq (tgt := 34) dX10_person_9 (by decide) (fun q => ?_) (fun q => ?_)
  · have K := Kt q
    exact K
  · have K := Kf q
    refine td_iload_n 2 dX10_person_12 rfl ?_
    refine td_i2l dX10_person_13 ?_
    refine td_lconst (v := 0) dX10_person_14 (by decide) ?_
    refine td_lconst (v := 1) dX10_person_15 (by decide) ?_
    exact K
set_option maxRecDepth 20000 in
theorem rX10_person_19 {G : td_G} {d : Nat} {Post : td_P} {x1 x2 x3 s0 : Int32} {h : td_H} (K : (s0 = 0 → td_J G d mX10_person Post 34 [(0, .ref 85), (1, .int x1), (2, .int x2), (3, .int x3)] [] h) ∧ (¬ s0 = 0 → td_J G d mX10_person Post 28 [(0, .ref 85), (1, .int x1), (2, .int x2), (3, .int x3)] [.long 5, .long 0, .long x3.toInt64] h)) : td_J G d mX10_person Post 19 [(0, .ref 85), (1, .int x1), (2, .int x2), (3, .int x3)] [.int s0] h := by
  obtain ⟨Kt, Kf⟩ := K
  refine td_if_eq (tgt := 34) dX10_person_19 (by decide) (fun q => ?_) (fun q => ?_)
  · have K := Kt q
    exact K
  · have K := Kf q
    refine td_iload_n 3 dX10_person_22 rfl ?_
    refine td_i2l dX10_person_23 ?_
    refine td_lconst (v := 0) dX10_person_24 (by decide) ?_
    refine td_ldc2 (v := 5) kw_X10_113 dX10_person_25 ?_
    exact K
set_option maxRecDepth 20000 in
theorem rX10_person_31 {G : td_G} {d : Nat} {Post : td_P} {x1 x2 x3 s0 : Int32} {h : td_H} (K : (¬ s0 = 0 → ((¬ (h 86 9) = 12 → td_J G d mX10_person Post 55 [(0, .ref 85), (1, .int x1), (2, .int x2), (3, .int x3)] [.int x3, .int x2, .int x1, .ref 85] h) ∧ ((h 86 9) = 12 → (Post (some (.int (-3))) h)))) ∧ (s0 = 0 → td_J G d mX10_person Post 34 [(0, .ref 85), (1, .int x1), (2, .int x2), (3, .int x3)] [] h)) : td_J G d mX10_person Post 31 [(0, .ref 85), (1, .int x1), (2, .int x2), (3, .int x3)] [.int s0] h := by
  obtain ⟨Kt, Kf⟩ := K
  refine td_if_ne (tgt := 36) dX10_person_31 (by decide) (fun q => ?_) (fun q => ?_)
  · have K := Kt q
    refine td_aload_n 0 dX10_person_36 rfl ?_
    refine gf_X10_7 rfl kp_85 dX10_person_37 ?_
    refine td_bipush (v := 9) dX10_person_40 (by decide) ?_
    refine td_ialdc (j := 9) kp_86 (by decide) (by unfold vp_in; decide) (by decide) dX10_person_42 ?_
    refine td_bipush (v := 12) dX10_person_43 (by decide) ?_
    obtain ⟨Kt, Kf⟩ := K
    refine td_icmp_ne (tgt := 51) dX10_person_45 (by decide) (fun q => ?_) (fun q => ?_)
    · have K := Kt q
      refine td_aload_n 0 dX10_person_51 rfl ?_
      refine td_iload_n 1 dX10_person_52 rfl ?_
      refine td_iload_n 2 dX10_person_53 rfl ?_
      refine td_iload_n 3 dX10_person_54 rfl ?_
      exact K
    · have K := Kf q
      refine td_bipush (v := (-3)) dX10_person_48 (by decide) ?_
      exact td_ireturn rfl dX10_person_50 K
  · have K := Kf q
    exact K
set_option maxRecDepth 20000 in
theorem rX10_person_34 {G : td_G} {d : Nat} {Post : td_P} {x1 x2 x3 : Int32} {h : td_H} (K : Post (some (.int (-1))) h) : td_J G d mX10_person Post 34 [(0, .ref 85), (1, .int x1), (2, .int x2), (3, .int x3)] [] h := by
  refine td_iconst (v := (-1)) dX10_person_34 (by decide) ?_
  exact td_ireturn rfl dX10_person_35 K
set_option maxRecDepth 20000 in
theorem rX10_person_58 {G : td_G} {d : Nat} {Post : td_P} {x1 x2 x3 : Int32} {h : td_H} (K : Post (some (.int ((h 86 9) - 1))) h) : td_J G d mX10_person Post 58 [(0, .ref 85), (1, .int x1), (2, .int x2), (3, .int x3)] [] h := by
  refine td_aload_n 0 dX10_person_58 rfl ?_
  refine gf_X10_7 rfl kp_85 dX10_person_59 ?_
  refine td_bipush (v := 9) dX10_person_62 (by decide) ?_
  refine td_ialdc (j := 9) kp_86 (by decide) (by unfold vp_in; decide) (by decide) dX10_person_64 ?_
  refine td_iconst (v := 1) dX10_person_65 (by decide) ?_
  refine td_isub dX10_person_66 ?_
  exact td_ireturn rfl dX10_person_67 K
set_option maxRecDepth 20000 in
theorem rX10_told_0 {G : td_G} {d : Nat} {Post : td_P} {x1 x2 : Int32} {h : td_H} (K : td_J G d mX10_told Post 2 [(0, .ref 85), (1, .int x1), (2, .int x2)] [.int x1, .ref 85] h) : td_J G d mX10_told Post 0 [(0, .ref 85), (1, .int x1), (2, .int x2)] [] h := by
  refine td_aload_n 0 dX10_told_0 rfl ?_
  refine td_iload_n 1 dX10_told_1 rfl ?_
  exact K
set_option maxRecDepth 20000 in
theorem rX10_told_5 {G : td_G} {d : Nat} {Post : td_P} {x1 x2 s0 : Int32} {h : td_H} (K : (s0 = 0 → td_J G d mX10_told Post 20 [(0, .ref 85), (1, .int x1), (2, .int x2)] [] h) ∧ (¬ s0 = 0 → td_J G d mX10_told Post 14 [(0, .ref 85), (1, .int x1), (2, .int x2)] [.long 4, .long 0, .long x2.toInt64] h)) : td_J G d mX10_told Post 5 [(0, .ref 85), (1, .int x1), (2, .int x2)] [.int s0] h := by
  obtain ⟨Kt, Kf⟩ := K
  refine td_if_eq (tgt := 20) dX10_told_5 (by decide) (fun q => ?_) (fun q => ?_)
  · have K := Kt q
    exact K
  · have K := Kf q
    refine td_iload_n 2 dX10_told_8 rfl ?_
    refine td_i2l dX10_told_9 ?_
    refine td_lconst (v := 0) dX10_told_10 (by decide) ?_
    refine td_ldc2 (v := 4) kw_X10_122 dX10_told_11 ?_
    exact K
set_option maxRecDepth 20000 in
theorem rX10_told_17 {G : td_G} {d : Nat} {Post : td_P} {x1 x2 s0 : Int32} {h : td_H} (K : (¬ s0 = 0 → ((3 ≤ x2 → ((¬ x2 = 3 → td_J G d mX10_told Post 56 [(0, .ref 85), (1, .int x1), (2, .int x2)] [.int 2, .int x1, .ref 85] h) ∧ (x2 = 3 → td_J G d mX10_told Post 44 [(0, .ref 85), (1, .int x1), (2, .int x2)] [.int 2, .int x1, .ref 85] h))) ∧ (¬ 3 ≤ x2 → td_J G d mX10_told Post 30 [(0, .ref 85), (1, .int x1), (2, .int x2)] [.int x2, .int x1, .ref 85] h))) ∧ (s0 = 0 → td_J G d mX10_told Post 20 [(0, .ref 85), (1, .int x1), (2, .int x2)] [] h)) : td_J G d mX10_told Post 17 [(0, .ref 85), (1, .int x1), (2, .int x2)] [.int s0] h := by
  obtain ⟨Kt, Kf⟩ := K
  refine td_if_ne (tgt := 22) dX10_told_17 (by decide) (fun q => ?_) (fun q => ?_)
  · have K := Kt q
    refine td_iload_n 2 dX10_told_22 rfl ?_
    refine td_iconst (v := 3) dX10_told_23 (by decide) ?_
    obtain ⟨Kt, Kf⟩ := K
    refine td_icmp_ge (tgt := 36) dX10_told_24 (by decide) (fun q => ?_) (fun q => ?_)
    · have K := Kt q
      refine td_iload_n 2 dX10_told_36 rfl ?_
      refine td_iconst (v := 3) dX10_told_37 (by decide) ?_
      obtain ⟨Kt, Kf⟩ := K
      refine td_icmp_ne (tgt := 53) dX10_told_38 (by decide) (fun q => ?_) (fun q => ?_)
      · have K := Kt q
        refine td_aload_n 0 dX10_told_53 rfl ?_
        refine td_iload_n 1 dX10_told_54 rfl ?_
        refine td_iconst (v := 2) dX10_told_55 (by decide) ?_
        exact K
      · have K := Kf q
        refine td_aload_n 0 dX10_told_41 rfl ?_
        refine td_iload_n 1 dX10_told_42 rfl ?_
        refine td_iconst (v := 2) dX10_told_43 (by decide) ?_
        exact K
    · have K := Kf q
      refine td_aload_n 0 dX10_told_27 rfl ?_
      refine td_iload_n 1 dX10_told_28 rfl ?_
      refine td_iload_n 2 dX10_told_29 rfl ?_
      exact K
  · have K := Kf q
    exact K
set_option maxRecDepth 20000 in
theorem rX10_told_20 {G : td_G} {d : Nat} {Post : td_P} {x1 x2 : Int32} {h : td_H} (K : Post (some (.int (-1))) h) : td_J G d mX10_told Post 20 [(0, .ref 85), (1, .int x1), (2, .int x2)] [] h := by
  refine td_iconst (v := (-1)) dX10_told_20 (by decide) ?_
  exact td_ireturn rfl dX10_told_21 K
set_option maxRecDepth 20000 in
theorem rX10_told_33 {G : td_G} {d : Nat} {Post : td_P} {x1 x2 s0 : Int32} {h : td_H} (K : td_J G d mX10_told Post 62 [(0, .ref 85), (1, .int x1), (2, .int x2)] [.int s0] h) : td_J G d mX10_told Post 33 [(0, .ref 85), (1, .int x1), (2, .int x2)] [.int s0] h := by
  refine td_goto (tgt := 62) dX10_told_33 (by decide) ?_
  exact K
set_option maxRecDepth 20000 in
theorem rX10_told_50 {G : td_G} {d : Nat} {Post : td_P} {x1 x2 s0 : Int32} {h : td_H} (K : td_J G d mX10_told Post 62 [(0, .ref 85), (1, .int x1), (2, .int x2)] [.int s0] h) : td_J G d mX10_told Post 50 [(0, .ref 85), (1, .int x1), (2, .int x2)] [.int s0] h := by
  refine td_goto (tgt := 62) dX10_told_50 (by decide) ?_
  exact K
set_option maxRecDepth 20000 in
theorem rX10_told_62 {G : td_G} {d : Nat} {Post : td_P} {x1 x2 s0 : Int32} {h : td_H} (K : Post (some (.int s0)) h) : td_J G d mX10_told Post 62 [(0, .ref 85), (1, .int x1), (2, .int x2)] [.int s0] h := by
  exact td_ireturn rfl dX10_told_62 K
set_option maxRecDepth 20000 in
theorem rX10_delay_0 {G : td_G} {d : Nat} {Post : td_P} {x1 x2 : Int32} {h : td_H} (K : td_J G d mX10_delay Post 2 [(0, .ref 85), (1, .int x1), (2, .int x2)] [.int x1, .ref 85] h) : td_J G d mX10_delay Post 0 [(0, .ref 85), (1, .int x1), (2, .int x2)] [] h := by
  refine td_aload_n 0 dX10_delay_0 rfl ?_
  refine td_iload_n 1 dX10_delay_1 rfl ?_
  exact K
set_option maxRecDepth 20000 in
theorem rX10_delay_5 {G : td_G} {d : Nat} {Post : td_P} {x1 x2 s0 : Int32} {h : td_H} (K : (s0 = 0 → td_J G d mX10_delay Post 20 [(0, .ref 85), (1, .int x1), (2, .int x2)] [] h) ∧ (¬ s0 = 0 → td_J G d mX10_delay Post 14 [(0, .ref 85), (1, .int x1), (2, .int x2)] [.long 119, .long 0, .long x2.toInt64] h)) : td_J G d mX10_delay Post 5 [(0, .ref 85), (1, .int x1), (2, .int x2)] [.int s0] h := by
  obtain ⟨Kt, Kf⟩ := K
  refine td_if_eq (tgt := 20) dX10_delay_5 (by decide) (fun q => ?_) (fun q => ?_)
  · have K := Kt q
    exact K
  · have K := Kf q
    refine td_iload_n 2 dX10_delay_8 rfl ?_
    refine td_i2l dX10_delay_9 ?_
    refine td_lconst (v := 0) dX10_delay_10 (by decide) ?_
    refine td_ldc2 (v := 119) kw_X10_111 dX10_delay_11 ?_
    exact K
set_option maxRecDepth 20000 in
theorem rX10_delay_17 {G : td_G} {d : Nat} {Post : td_P} {x1 x2 s0 : Int32} {h : td_H} (K : (¬ s0 = 0 → td_J G d mX10_delay Post 25 [(0, .ref 85), (1, .int x1), (2, .int x2)] [.int 0, .int x1, .ref 85] h) ∧ (s0 = 0 → td_J G d mX10_delay Post 20 [(0, .ref 85), (1, .int x1), (2, .int x2)] [] h)) : td_J G d mX10_delay Post 17 [(0, .ref 85), (1, .int x1), (2, .int x2)] [.int s0] h := by
  obtain ⟨Kt, Kf⟩ := K
  refine td_if_ne (tgt := 22) dX10_delay_17 (by decide) (fun q => ?_) (fun q => ?_)
  · have K := Kt q
    refine td_aload_n 0 dX10_delay_22 rfl ?_
    refine td_iload_n 1 dX10_delay_23 rfl ?_
    refine td_iconst (v := 0) dX10_delay_24 (by decide) ?_
    exact K
  · have K := Kf q
    exact K
set_option maxRecDepth 20000 in
theorem rX10_delay_20 {G : td_G} {d : Nat} {Post : td_P} {x1 x2 : Int32} {h : td_H} (K : Post (some (.int (-1))) h) : td_J G d mX10_delay Post 20 [(0, .ref 85), (1, .int x1), (2, .int x2)] [] h := by
  refine td_iconst (v := (-1)) dX10_delay_20 (by decide) ?_
  exact td_ireturn rfl dX10_delay_21 K
set_option maxRecDepth 20000 in
theorem rX10_delay_28 {G : td_G} {d : Nat} {Post : td_P} {x1 x2 s0 : Int32} {h : td_H} (K : vp_in (10 + (3 * x1)) 46 ∧ (Post (some (.int s0)) (hu h 86 (ix (10 + (3 * x1))) x2))) : td_J G d mX10_delay Post 28 [(0, .ref 85), (1, .int x1), (2, .int x2)] [.int s0] h := by
  refine td_istore_n (lv2 := [(0, .ref 85), (1, .int x1), (2, .int x2), (3, .int s0)]) dX10_delay_28 (by decide) rfl ?_
  refine td_aload_n 0 dX10_delay_29 rfl ?_
  refine gf_X10_7 rfl kp_85 dX10_delay_30 ?_
  refine td_bipush (v := 10) dX10_delay_33 (by decide) ?_
  refine td_iconst (v := 3) dX10_delay_35 (by decide) ?_
  refine td_iload_n 1 dX10_delay_36 rfl ?_
  refine td_imul dX10_delay_37 ?_
  refine td_iadd dX10_delay_38 ?_
  refine td_iload_n 2 dX10_delay_39 rfl ?_
  obtain ⟨e40, K⟩ := K
  refine td_iastc (j := (ix (10 + (3 * x1)))) kp_86 (by decide) e40 rfl dX10_delay_40 ?_
  refine td_iload_n 3 dX10_delay_41 rfl ?_
  exact td_ireturn rfl dX10_delay_42 K
set_option maxRecDepth 20000 in
theorem rX10_clear_0 {G : td_G} {d : Nat} {Post : td_P} {h : td_H} (K : Post (some (.int (h 86 9))) (hu h 86 9 0)) : td_J G d mX10_clear Post 0 [(0, .ref 85)] [] h := by
  refine td_aload_n 0 dX10_clear_0 rfl ?_
  refine gf_X10_7 rfl kp_85 dX10_clear_1 ?_
  refine td_bipush (v := 9) dX10_clear_4 (by decide) ?_
  refine td_ialdc (j := 9) kp_86 (by decide) (by unfold vp_in; decide) (by decide) dX10_clear_6 ?_
  refine td_istore_n (lv2 := [(0, .ref 85), (1, .int (h 86 9))]) dX10_clear_7 (by decide) rfl ?_
  refine td_aload_n 0 dX10_clear_8 rfl ?_
  refine gf_X10_7 rfl kp_85 dX10_clear_9 ?_
  refine td_bipush (v := 9) dX10_clear_12 (by decide) ?_
  refine td_iconst (v := 0) dX10_clear_14 (by decide) ?_
  refine td_iastc (j := 9) kp_86 (by decide) (by unfold vp_in; decide) (by decide) dX10_clear_15 ?_
  refine td_iload_n 1 dX10_clear_16 rfl ?_
  exact td_ireturn rfl dX10_clear_17 K
set_option maxRecDepth 20000 in
theorem rX10_type_0 {G : td_G} {d : Nat} {Post : td_P} {x3 : Int32} {w1 : Int64} {h : td_H} (K : td_J G d mX10_type Post 6 [(0, .ref 85), (1, .long w1), (3, .int x3)] [.long 8, .long 1, .long x3.toInt64] h) : td_J G d mX10_type Post 0 [(0, .ref 85), (1, .long w1), (3, .int x3)] [] h := by
  refine td_iload_n 2 dX10_type_0 rfl ?_
  refine td_i2l dX10_type_1 ?_
  refine td_lconst (v := 1) dX10_type_2 (by decide) ?_
  refine td_ldc2 (v := 8) kw_X10_73 dX10_type_3 ?_
  exact K
set_option maxRecDepth 20000 in
theorem rX10_type_9 {G : td_G} {d : Nat} {Post : td_P} {x3 s0 : Int32} {w1 : Int64} {h : td_H} (K : (¬ s0 = 0 → td_J G d mX10_type Post 19 [(0, .ref 85), (1, .long w1), (3, .int x3), (4, .int (x3 - 1))] [] h) ∧ (s0 = 0 → (Post (some (.int (-1))) h))) : td_J G d mX10_type Post 9 [(0, .ref 85), (1, .long w1), (3, .int x3)] [.int s0] h := by
  obtain ⟨Kt, Kf⟩ := K
  refine td_if_ne (tgt := 14) dX10_type_9 (by decide) (fun q => ?_) (fun q => ?_)
  · have K := Kt q
    refine td_iload_n 2 dX10_type_14 rfl ?_
    refine td_iconst (v := 1) dX10_type_15 (by decide) ?_
    refine td_isub dX10_type_16 ?_
    refine td_istore (lv2 := [(0, .ref 85), (1, .long w1), (3, .int x3), (4, .int (x3 - 1))]) dX10_type_17 (by decide) rfl ?_
    exact K
  · have K := Kf q
    refine td_iconst (v := (-1)) dX10_type_12 (by decide) ?_
    exact td_ireturn rfl dX10_type_13 K
set_option maxRecDepth 20000 in
theorem rX10_type_19 {G : td_G} {d : Nat} {Post : td_P} {x3 x4 : Int32} {w1 : Int64} {h : td_H} (K : (x4 < 0 → ((((h 85 5) + x3) ≤ 80 → td_J G d mX10_type Post 74 [(0, .ref 85), (1, .long w1), (3, .int x3), (4, .int (x3 - 1))] [] h) ∧ (¬ ((h 85 5) + x3) ≤ 80 → (Post (some (.int (-3))) h)))) ∧ (¬ x4 < 0 → td_J G d mX10_type Post 41 [(0, .ref 85), (1, .long w1), (3, .int x3), (4, .int x4)] [.long 126, .long 32, .long ((jlshr w1 (8 * x4)) &&& 255)] h)) : td_J G d mX10_type Post 19 [(0, .ref 85), (1, .long w1), (3, .int x3), (4, .int x4)] [] h := by
  refine td_iload 3 dX10_type_19 rfl ?_
  obtain ⟨Kt, Kf⟩ := K
  refine td_if_lt (tgt := 55) dX10_type_21 (by decide) (fun q => ?_) (fun q => ?_)
  · have K := Kt q
    refine td_aload_n 0 dX10_type_55 rfl ?_
    refine gf_X10_136 rfl kp_85 dX10_type_56 ?_
    refine td_iload_n 2 dX10_type_59 rfl ?_
    refine td_iadd dX10_type_60 ?_
    refine td_bipush (v := 80) dX10_type_61 (by decide) ?_
    obtain ⟨Kt, Kf⟩ := K
    refine td_icmp_le (tgt := 69) dX10_type_63 (by decide) (fun q => ?_) (fun q => ?_)
    · have K := Kt q
      refine td_iload_n 2 dX10_type_69 rfl ?_
      refine td_iconst (v := 1) dX10_type_70 (by decide) ?_
      refine td_isub dX10_type_71 ?_
      refine td_istore (lv2 := [(0, .ref 85), (1, .long w1), (3, .int x3), (4, .int (x3 - 1))]) dX10_type_72 (by decide) rfl ?_
      exact K
    · have K := Kf q
      refine td_bipush (v := (-3)) dX10_type_66 (by decide) ?_
      exact td_ireturn rfl dX10_type_68 K
  · have K := Kf q
    refine td_lload_n 1 dX10_type_24 rfl ?_
    refine td_bipush (v := 8) dX10_type_25 (by decide) ?_
    refine td_iload 3 dX10_type_27 rfl ?_
    refine td_imul dX10_type_29 ?_
    refine td_lshr dX10_type_30 ?_
    refine td_ldc2 (v := 255) kw_X10_130 dX10_type_31 ?_
    refine td_land dX10_type_34 ?_
    refine td_ldc2 (v := 32) kw_X10_132 dX10_type_35 ?_
    refine td_ldc2 (v := 126) kw_X10_134 dX10_type_38 ?_
    exact K
set_option maxRecDepth 20000 in
theorem rX10_type_44 {G : td_G} {d : Nat} {Post : td_P} {x3 x4 s0 : Int32} {w1 : Int64} {h : td_H} (K : (¬ s0 = 0 → td_J G d mX10_type Post 19 [(0, .ref 85), (1, .long w1), (3, .int x3), (4, .int (x4 + (-1)))] [] h) ∧ (s0 = 0 → (Post (some (.int (-1))) h))) : td_J G d mX10_type Post 44 [(0, .ref 85), (1, .long w1), (3, .int x3), (4, .int x4)] [.int s0] h := by
  obtain ⟨Kt, Kf⟩ := K
  refine td_if_ne (tgt := 49) dX10_type_44 (by decide) (fun q => ?_) (fun q => ?_)
  · have K := Kt q
    refine td_iinc 3 (v := x4 + (-1)) (lv2 := [(0, .ref 85), (1, .long w1), (3, .int x3), (4, .int (x4 + (-1)))]) dX10_type_49 rfl (congrArg (x4 + ·) (by decide)) (by decide) rfl ?_
    refine td_goto (tgt := 19) dX10_type_52 (by decide) ?_
    exact K
  · have K := Kf q
    refine td_iconst (v := (-1)) dX10_type_47 (by decide) ?_
    exact td_ireturn rfl dX10_type_48 K
set_option maxRecDepth 20000 in
theorem rX10_type_74 {G : td_G} {d : Nat} {Post : td_P} {x3 x4 : Int32} {w1 : Int64} {h : td_H} (K : (x4 < 0 → (Post (some (.int (h 85 5))) h)) ∧ (¬ x4 < 0 → (vp_in (h 85 5) 80 ∧ (td_J G d mX10_type Post 74 [(0, .ref 85), (1, .long w1), (3, .int x3), (4, .int (x4 + (-1)))] [] (hu (hu h 89 (ix (h 85 5)) (((jlshr w1 (8 * x4)) &&& 255).toInt32)) 85 5 (((hu h 89 (ix (h 85 5)) (((jlshr w1 (8 * x4)) &&& 255).toInt32)) 85 5) + 1)))))) : td_J G d mX10_type Post 74 [(0, .ref 85), (1, .long w1), (3, .int x3), (4, .int x4)] [] h := by
  refine td_iload 3 dX10_type_74 rfl ?_
  obtain ⟨Kt, Kf⟩ := K
  refine td_if_lt (tgt := 116) dX10_type_76 (by decide) (fun q => ?_) (fun q => ?_)
  · have K := Kt q
    refine td_aload_n 0 dX10_type_116 rfl ?_
    refine gf_X10_136 rfl kp_85 dX10_type_117 ?_
    exact td_ireturn rfl dX10_type_120 K
  · have K := Kf q
    refine td_aload_n 0 dX10_type_79 rfl ?_
    refine gf_X10_19 rfl kp_85 dX10_type_80 ?_
    refine td_aload_n 0 dX10_type_83 rfl ?_
    refine gf_X10_136 rfl kp_85 dX10_type_84 ?_
    refine td_lload_n 1 dX10_type_87 rfl ?_
    refine td_bipush (v := 8) dX10_type_88 (by decide) ?_
    refine td_iload 3 dX10_type_90 rfl ?_
    refine td_imul dX10_type_92 ?_
    refine td_lshr dX10_type_93 ?_
    refine td_ldc2 (v := 255) kw_X10_130 dX10_type_94 ?_
    refine td_land dX10_type_97 ?_
    refine td_l2i dX10_type_98 ?_
    obtain ⟨e99, K⟩ := K
    refine td_iastc (j := (ix (h 85 5))) kp_89 (by decide) e99 rfl dX10_type_99 ?_
    refine td_aload_n 0 dX10_type_100 rfl ?_
    refine td_dup dX10_type_101 rfl ?_
    refine gf_X10_136 rfl kp_85 dX10_type_102 ?_
    refine td_iconst (v := 1) dX10_type_105 (by decide) ?_
    refine td_iadd dX10_type_106 ?_
    refine pf_X10_136 rfl kp_85 dX10_type_107 ?_
    refine td_iinc 3 (v := x4 + (-1)) (lv2 := [(0, .ref 85), (1, .long w1), (3, .int x3), (4, .int (x4 + (-1)))]) dX10_type_110 rfl (congrArg (x4 + ·) (by decide)) (by decide) rfl ?_
    refine td_goto (tgt := 74) dX10_type_113 (by decide) ?_
    exact K
set_option maxRecDepth 20000 in
theorem rX10_nextByte_0 {G : td_G} {d : Nat} {Post : td_P} {h : td_H} (K : ((h 85 5) ≤ (h 85 6) → td_J G d mX10_nextByte Post 38 [(0, .ref 85)] [] h) ∧ (¬ (h 85 5) ≤ (h 85 6) → (vp_in (h 85 6) 80 ∧ ((¬ (h 89 (ix (h 85 6))) = 32 → td_J G d mX10_nextByte Post 38 [(0, .ref 85)] [] h) ∧ ((h 89 (ix (h 85 6))) = 32 → td_J G d mX10_nextByte Post 0 [(0, .ref 85)] [] (hu h 85 6 ((h 85 6) + 1))))))) : td_J G d mX10_nextByte Post 0 [(0, .ref 85)] [] h := by
  refine td_aload_n 0 dX10_nextByte_0 rfl ?_
  refine gf_X10_139 rfl kp_85 dX10_nextByte_1 ?_
  refine td_aload_n 0 dX10_nextByte_4 rfl ?_
  refine gf_X10_136 rfl kp_85 dX10_nextByte_5 ?_
  obtain ⟨Kt, Kf⟩ := K
  refine td_icmp_ge (tgt := 38) dX10_nextByte_8 (by decide) (fun q => ?_) (fun q => ?_)
  · have K := Kt q
    exact K
  · have K := Kf q
    refine td_aload_n 0 dX10_nextByte_11 rfl ?_
    refine gf_X10_19 rfl kp_85 dX10_nextByte_12 ?_
    refine td_aload_n 0 dX10_nextByte_15 rfl ?_
    refine gf_X10_139 rfl kp_85 dX10_nextByte_16 ?_
    obtain ⟨e19, K⟩ := K
    refine td_ialdc (j := (ix (h 85 6))) kp_89 (by decide) e19 rfl dX10_nextByte_19 ?_
    refine td_bipush (v := 32) dX10_nextByte_20 (by decide) ?_
    obtain ⟨Kt, Kf⟩ := K
    refine td_icmp_ne (tgt := 38) dX10_nextByte_22 (by decide) (fun q => ?_) (fun q => ?_)
    · have K := Kt q
      exact K
    · have K := Kf q
      refine td_aload_n 0 dX10_nextByte_25 rfl ?_
      refine td_dup dX10_nextByte_26 rfl ?_
      refine gf_X10_139 rfl kp_85 dX10_nextByte_27 ?_
      refine td_iconst (v := 1) dX10_nextByte_30 (by decide) ?_
      refine td_iadd dX10_nextByte_31 ?_
      refine pf_X10_139 rfl kp_85 dX10_nextByte_32 ?_
      refine td_goto (tgt := 0) dX10_nextByte_35 (by decide) ?_
      exact K
set_option maxRecDepth 20000 in
theorem rX10_nextByte_38 {G : td_G} {d : Nat} {Post : td_P} {h : td_H} (K : ((h 85 5) ≤ (h 85 6) → td_J G d mX10_nextByte Post 62 [(0, .ref 85)] [.int (-1)] h) ∧ (¬ (h 85 5) ≤ (h 85 6) → (vp_in (h 85 6) 80 ∧ (td_J G d mX10_nextByte Post 62 [(0, .ref 85)] [.int (h 89 (ix (h 85 6)))] h)))) : td_J G d mX10_nextByte Post 38 [(0, .ref 85)] [] h := by
  refine td_aload_n 0 dX10_nextByte_38 rfl ?_
  refine gf_X10_139 rfl kp_85 dX10_nextByte_39 ?_
  refine td_aload_n 0 dX10_nextByte_42 rfl ?_
  refine gf_X10_136 rfl kp_85 dX10_nextByte_43 ?_
  obtain ⟨Kt, Kf⟩ := K
  refine td_icmp_ge (tgt := 61) dX10_nextByte_46 (by decide) (fun q => ?_) (fun q => ?_)
  · have K := Kt q
    refine td_iconst (v := (-1)) dX10_nextByte_61 (by decide) ?_
    exact K
  · have K := Kf q
    refine td_aload_n 0 dX10_nextByte_49 rfl ?_
    refine gf_X10_19 rfl kp_85 dX10_nextByte_50 ?_
    refine td_aload_n 0 dX10_nextByte_53 rfl ?_
    refine gf_X10_139 rfl kp_85 dX10_nextByte_54 ?_
    obtain ⟨e57, K⟩ := K
    refine td_ialdc (j := (ix (h 85 6))) kp_89 (by decide) e57 rfl dX10_nextByte_57 ?_
    refine td_goto (tgt := 62) dX10_nextByte_58 (by decide) ?_
    exact K
set_option maxRecDepth 20000 in
theorem rX10_nextByte_62 {G : td_G} {d : Nat} {Post : td_P} {s0 : Int32} {h : td_H} (K : Post (some (.int s0)) h) : td_J G d mX10_nextByte Post 62 [(0, .ref 85)] [.int s0] h := by
  exact td_ireturn rfl dX10_nextByte_62 K
set_option maxRecDepth 20000 in
theorem rX10_readTick_0 {G : td_G} {d : Nat} {Post : td_P} {h : td_H} (K : td_J G d mX10_readTick Post 1 [(0, .ref 85)] [.ref 85] h) : td_J G d mX10_readTick Post 0 [(0, .ref 85)] [] h := by
  refine td_aload_n 0 dX10_readTick_0 rfl ?_
  exact K
set_option maxRecDepth 20000 in
theorem rX10_readTick_4 {G : td_G} {d : Nat} {Post : td_P} {s0 : Int32} {h : td_H} (K : td_J G d mX10_readTick Post 12 [(0, .ref 85), (1, .int (h 85 6)), (2, .int 0)] [] h) : td_J G d mX10_readTick Post 4 [(0, .ref 85)] [.int s0] h := by
  refine td_pop dX10_readTick_4 rfl ?_
  refine td_aload_n 0 dX10_readTick_5 rfl ?_
  refine gf_X10_139 rfl kp_85 dX10_readTick_6 ?_
  refine td_istore_n (lv2 := [(0, .ref 85), (1, .int (h 85 6))]) dX10_readTick_9 (by decide) rfl ?_
  refine td_iconst (v := 0) dX10_readTick_10 (by decide) ?_
  refine td_istore_n (lv2 := [(0, .ref 85), (1, .int (h 85 6)), (2, .int 0)]) dX10_readTick_11 (by decide) rfl ?_
  exact K
set_option maxRecDepth 20000 in
theorem rX10_readTick_12 {G : td_G} {d : Nat} {Post : td_P} {x1 x2 : Int32} {h : td_H} (K : ((h 85 5) ≤ (h 85 6) → td_J G d mX10_readTick Post 87 [(0, .ref 85), (1, .int x1), (2, .int x2)] [] h) ∧ (¬ (h 85 5) ≤ (h 85 6) → (vp_in (h 85 6) 80 ∧ (td_J G d mX10_readTick Post 39 [(0, .ref 85), (1, .int x1), (2, .int x2)] [.long 57, .long 48, .long ((h 89 (ix (h 85 6))).toInt64)] h)))) : td_J G d mX10_readTick Post 12 [(0, .ref 85), (1, .int x1), (2, .int x2)] [] h := by
  refine td_aload_n 0 dX10_readTick_12 rfl ?_
  refine gf_X10_139 rfl kp_85 dX10_readTick_13 ?_
  refine td_aload_n 0 dX10_readTick_16 rfl ?_
  refine gf_X10_136 rfl kp_85 dX10_readTick_17 ?_
  obtain ⟨Kt, Kf⟩ := K
  refine td_icmp_ge (tgt := 87) dX10_readTick_20 (by decide) (fun q => ?_) (fun q => ?_)
  · have K := Kt q
    exact K
  · have K := Kf q
    refine td_aload_n 0 dX10_readTick_23 rfl ?_
    refine gf_X10_19 rfl kp_85 dX10_readTick_24 ?_
    refine td_aload_n 0 dX10_readTick_27 rfl ?_
    refine gf_X10_139 rfl kp_85 dX10_readTick_28 ?_
    obtain ⟨e31, K⟩ := K
    refine td_ialdc (j := (ix (h 85 6))) kp_89 (by decide) e31 rfl dX10_readTick_31 ?_
    refine td_i2l dX10_readTick_32 ?_
    refine td_ldc2 (v := 48) kw_X10_146 dX10_readTick_33 ?_
    refine td_ldc2 (v := 57) kw_X10_148 dX10_readTick_36 ?_
    exact K
set_option maxRecDepth 20000 in
theorem rX10_readTick_42 {G : td_G} {d : Nat} {Post : td_P} {x1 x2 s0 : Int32} {h : td_H} (K : (s0 = 0 → td_J G d mX10_readTick Post 87 [(0, .ref 85), (1, .int x1), (2, .int x2)] [] h) ∧ (¬ s0 = 0 → ((x2 ≤ 999 → (vp_in (h 85 6) 80 ∧ (td_J G d mX10_readTick Post 73 [(0, .ref 85), (1, .int x1), (2, .int x2)] [.int (((10 * x2) + (h 89 (ix (h 85 6)))) - 48)] h))) ∧ (¬ x2 ≤ 999 → td_J G d mX10_readTick Post 73 [(0, .ref 85), (1, .int x1), (2, .int x2)] [.int x2] h)))) : td_J G d mX10_readTick Post 42 [(0, .ref 85), (1, .int x1), (2, .int x2)] [.int s0] h := by
  obtain ⟨Kt, Kf⟩ := K
  refine td_if_eq (tgt := 87) dX10_readTick_42 (by decide) (fun q => ?_) (fun q => ?_)
  · have K := Kt q
    exact K
  · have K := Kf q
    refine td_iload_n 2 dX10_readTick_45 rfl ?_
    refine td_sipush (v := 999) dX10_readTick_46 (by decide) ?_
    obtain ⟨Kt, Kf⟩ := K
    refine td_icmp_le (tgt := 56) dX10_readTick_49 (by decide) (fun q => ?_) (fun q => ?_)
    · have K := Kt q
      refine td_bipush (v := 10) dX10_readTick_56 (by decide) ?_
      refine td_iload_n 2 dX10_readTick_58 rfl ?_
      refine td_imul dX10_readTick_59 ?_
      refine td_aload_n 0 dX10_readTick_60 rfl ?_
      refine gf_X10_19 rfl kp_85 dX10_readTick_61 ?_
      refine td_aload_n 0 dX10_readTick_64 rfl ?_
      refine gf_X10_139 rfl kp_85 dX10_readTick_65 ?_
      obtain ⟨e68, K⟩ := K
      refine td_ialdc (j := (ix (h 85 6))) kp_89 (by decide) e68 rfl dX10_readTick_68 ?_
      refine td_iadd dX10_readTick_69 ?_
      refine td_bipush (v := 48) dX10_readTick_70 (by decide) ?_
      refine td_isub dX10_readTick_72 ?_
      exact K
    · have K := Kf q
      refine td_iload_n 2 dX10_readTick_52 rfl ?_
      refine td_goto (tgt := 73) dX10_readTick_53 (by decide) ?_
      exact K
set_option maxRecDepth 20000 in
theorem rX10_readTick_73 {G : td_G} {d : Nat} {Post : td_P} {x1 x2 s0 : Int32} {h : td_H} (K : td_J G d mX10_readTick Post 12 [(0, .ref 85), (1, .int x1), (2, .int s0)] [] (hu h 85 6 ((h 85 6) + 1))) : td_J G d mX10_readTick Post 73 [(0, .ref 85), (1, .int x1), (2, .int x2)] [.int s0] h := by
  refine td_istore_n (lv2 := [(0, .ref 85), (1, .int x1), (2, .int s0)]) dX10_readTick_73 (by decide) rfl ?_
  refine td_aload_n 0 dX10_readTick_74 rfl ?_
  refine td_dup dX10_readTick_75 rfl ?_
  refine gf_X10_139 rfl kp_85 dX10_readTick_76 ?_
  refine td_iconst (v := 1) dX10_readTick_79 (by decide) ?_
  refine td_iadd dX10_readTick_80 ?_
  refine pf_X10_139 rfl kp_85 dX10_readTick_81 ?_
  refine td_goto (tgt := 12) dX10_readTick_84 (by decide) ?_
  exact K
set_option maxRecDepth 20000 in
theorem rX10_readTick_87 {G : td_G} {d : Nat} {Post : td_P} {x1 x2 : Int32} {h : td_H} (K : (¬ (h 85 6) = x1 → ((x2 < 120 → (Post (some (.int x2)) h)) ∧ (¬ x2 < 120 → (Post (some (.int (-1))) (hu h 85 6 x1))))) ∧ ((h 85 6) = x1 → (Post (some (.int (-1))) h))) : td_J G d mX10_readTick Post 87 [(0, .ref 85), (1, .int x1), (2, .int x2)] [] h := by
  refine td_aload_n 0 dX10_readTick_87 rfl ?_
  refine gf_X10_139 rfl kp_85 dX10_readTick_88 ?_
  refine td_iload_n 1 dX10_readTick_91 rfl ?_
  obtain ⟨Kt, Kf⟩ := K
  refine td_icmp_ne (tgt := 97) dX10_readTick_92 (by decide) (fun q => ?_) (fun q => ?_)
  · have K := Kt q
    refine td_iload_n 2 dX10_readTick_97 rfl ?_
    refine td_bipush (v := 120) dX10_readTick_98 (by decide) ?_
    obtain ⟨Kt, Kf⟩ := K
    refine td_icmp_lt (tgt := 110) dX10_readTick_100 (by decide) (fun q => ?_) (fun q => ?_)
    · have K := Kt q
      refine td_iload_n 2 dX10_readTick_110 rfl ?_
      exact td_ireturn rfl dX10_readTick_111 K
    · have K := Kf q
      refine td_aload_n 0 dX10_readTick_103 rfl ?_
      refine td_iload_n 1 dX10_readTick_104 rfl ?_
      refine pf_X10_139 rfl kp_85 dX10_readTick_105 ?_
      refine td_iconst (v := (-1)) dX10_readTick_108 (by decide) ?_
      exact td_ireturn rfl dX10_readTick_109 K
  · have K := Kf q
    refine td_iconst (v := (-1)) dX10_readTick_95 (by decide) ?_
    exact td_ireturn rfl dX10_readTick_96 K
set_option maxRecDepth 20000 in
theorem rX10_readPerson_0 {G : td_G} {d : Nat} {Post : td_P} {x1 : Int32} {h : td_H} (K : td_J G d mX10_readPerson Post 6 [(0, .ref 85), (1, .int x1)] [.ref 85, .int x1, .ref 90] h) : td_J G d mX10_readPerson Post 0 [(0, .ref 85), (1, .int x1)] [] h := by
  refine td_aload_n 0 dX10_readPerson_0 rfl ?_
  refine gf_X10_22 rfl kp_85 dX10_readPerson_1 ?_
  refine td_iload_n 1 dX10_readPerson_4 rfl ?_
  refine td_aload_n 0 dX10_readPerson_5 rfl ?_
  exact K
set_option maxRecDepth 20000 in
theorem rX10_readPerson_9 {G : td_G} {d : Nat} {Post : td_P} {a0 na0 : Nat} {x1 s1 s2 : Int32} {h : td_H} (ha0 : td_kd a0 = 100 + na0) (ga0 : na0 ≠ 899) (K : vp_in s1 na0 ∧ (vp_in x1 24 ∧ ((0 ≤ ((hu h a0 (ix s1) s2) 90 (ix x1)) → td_J G d mX10_readPerson Post 22 [(0, .ref 85), (1, .int x1)] [.ref 85] (hu h a0 (ix s1) s2)) ∧ (¬ 0 ≤ ((hu h a0 (ix s1) s2) 90 (ix x1)) → (Post (some (.int 0)) (hu h a0 (ix s1) s2)))))) : td_J G d mX10_readPerson Post 9 [(0, .ref 85), (1, .int x1)] [.int s2, .int s1, .ref a0] h := by
  obtain ⟨e9, K⟩ := K
  refine td_iastc (j := (ix s1)) ha0 ga0 e9 rfl dX10_readPerson_9 ?_
  refine td_aload_n 0 dX10_readPerson_10 rfl ?_
  refine gf_X10_22 rfl kp_85 dX10_readPerson_11 ?_
  refine td_iload_n 1 dX10_readPerson_14 rfl ?_
  obtain ⟨e15, K⟩ := K
  refine td_ialdc (j := (ix x1)) kp_90 (by decide) e15 rfl dX10_readPerson_15 ?_
  obtain ⟨Kt, Kf⟩ := K
  refine td_if_ge (tgt := 21) dX10_readPerson_16 (by decide) (fun q => ?_) (fun q => ?_)
  · have K := Kt q
    refine td_aload_n 0 dX10_readPerson_21 rfl ?_
    exact K
  · have K := Kf q
    refine td_iconst (v := 0) dX10_readPerson_19 (by decide) ?_
    exact td_zreturn rfl rfl dX10_readPerson_20 K
set_option maxRecDepth 20000 in
theorem rX10_readPerson_25 {G : td_G} {d : Nat} {Post : td_P} {x1 s0 : Int32} {h : td_H} (K : (s0 = 115 → td_J G d mX10_readPerson Post 40 [(0, .ref 85), (1, .int x1), (2, .int s0)] [] h) ∧ (¬ s0 = 115 → ((s0 = 104 → td_J G d mX10_readPerson Post 40 [(0, .ref 85), (1, .int x1), (2, .int s0)] [] h) ∧ (¬ s0 = 104 → (Post (some (.int 0)) h))))) : td_J G d mX10_readPerson Post 25 [(0, .ref 85), (1, .int x1)] [.int s0] h := by
  refine td_istore_n (lv2 := [(0, .ref 85), (1, .int x1), (2, .int s0)]) dX10_readPerson_25 (by decide) rfl ?_
  refine td_iload_n 2 dX10_readPerson_26 rfl ?_
  refine td_bipush (v := 115) dX10_readPerson_27 (by decide) ?_
  obtain ⟨Kt, Kf⟩ := K
  refine td_icmp_eq (tgt := 40) dX10_readPerson_29 (by decide) (fun q => ?_) (fun q => ?_)
  · have K := Kt q
    exact K
  · have K := Kf q
    refine td_iload_n 2 dX10_readPerson_32 rfl ?_
    refine td_bipush (v := 104) dX10_readPerson_33 (by decide) ?_
    obtain ⟨Kt, Kf⟩ := K
    refine td_icmp_eq (tgt := 40) dX10_readPerson_35 (by decide) (fun q => ?_) (fun q => ?_)
    · have K := Kt q
      exact K
    · have K := Kf q
      refine td_iconst (v := 0) dX10_readPerson_38 (by decide) ?_
      exact td_zreturn rfl rfl dX10_readPerson_39 K
set_option maxRecDepth 20000 in
theorem rX10_readPerson_40 {G : td_G} {d : Nat} {Post : td_P} {x1 x2 : Int32} {h : td_H} (K : (¬ x2 = 115 → td_J G d mX10_readPerson Post 68 [(0, .ref 85), (1, .int x1), (2, .int x2)] [.int 1, .int (x1 + 1), .ref 90] (hu h 85 6 ((h 85 6) + 1))) ∧ (x2 = 115 → td_J G d mX10_readPerson Post 68 [(0, .ref 85), (1, .int x1), (2, .int x2)] [.int 0, .int (x1 + 1), .ref 90] (hu h 85 6 ((h 85 6) + 1)))) : td_J G d mX10_readPerson Post 40 [(0, .ref 85), (1, .int x1), (2, .int x2)] [] h := by
  refine td_aload_n 0 dX10_readPerson_40 rfl ?_
  refine td_dup dX10_readPerson_41 rfl ?_
  refine gf_X10_139 rfl kp_85 dX10_readPerson_42 ?_
  refine td_iconst (v := 1) dX10_readPerson_45 (by decide) ?_
  refine td_iadd dX10_readPerson_46 ?_
  refine pf_X10_139 rfl kp_85 dX10_readPerson_47 ?_
  refine td_aload_n 0 dX10_readPerson_50 rfl ?_
  refine gf_X10_22 rfl kp_85 dX10_readPerson_51 ?_
  refine td_iload_n 1 dX10_readPerson_54 rfl ?_
  refine td_iconst (v := 1) dX10_readPerson_55 (by decide) ?_
  refine td_iadd dX10_readPerson_56 ?_
  refine td_iload_n 2 dX10_readPerson_57 rfl ?_
  refine td_bipush (v := 115) dX10_readPerson_58 (by decide) ?_
  obtain ⟨Kt, Kf⟩ := K
  refine td_icmp_ne (tgt := 67) dX10_readPerson_60 (by decide) (fun q => ?_) (fun q => ?_)
  · have K := Kt q
    refine td_iconst (v := 1) dX10_readPerson_67 (by decide) ?_
    exact K
  · have K := Kf q
    refine td_iconst (v := 0) dX10_readPerson_63 (by decide) ?_
    refine td_goto (tgt := 68) dX10_readPerson_64 (by decide) ?_
    exact K
set_option maxRecDepth 20000 in
theorem rX10_readPerson_68 {G : td_G} {d : Nat} {Post : td_P} {a0 na0 : Nat} {x1 x2 s1 s2 : Int32} {h : td_H} (ha0 : td_kd a0 = 100 + na0) (ga0 : na0 ≠ 899) (K : vp_in s1 na0 ∧ (td_J G d mX10_readPerson Post 70 [(0, .ref 85), (1, .int x1), (2, .int x2)] [.ref 85] (hu h a0 (ix s1) s2))) : td_J G d mX10_readPerson Post 68 [(0, .ref 85), (1, .int x1), (2, .int x2)] [.int s2, .int s1, .ref a0] h := by
  obtain ⟨e68, K⟩ := K
  refine td_iastc (j := (ix s1)) ha0 ga0 e68 rfl dX10_readPerson_68 ?_
  refine td_aload_n 0 dX10_readPerson_69 rfl ?_
  exact K
set_option maxRecDepth 20000 in
theorem rX10_readPerson_73 {G : td_G} {d : Nat} {Post : td_P} {x1 x2 s0 : Int32} {h : td_H} (K : (¬ s0 = 119 → ((¬ s0 = 98 → ((¬ s0 = 116 → ((¬ s0 = 99 → ((¬ s0 = 104 → ((¬ s0 = 100 → td_J G d mX10_readPerson Post 142 [(0, .ref 85), (1, .int x1), (2, .int x2), (3, .int s0)] [.int (-1), .int (x1 + 2), .ref 90] h) ∧ (s0 = 100 → td_J G d mX10_readPerson Post 142 [(0, .ref 85), (1, .int x1), (2, .int x2), (3, .int s0)] [.int 5, .int (x1 + 2), .ref 90] h))) ∧ (s0 = 104 → td_J G d mX10_readPerson Post 142 [(0, .ref 85), (1, .int x1), (2, .int x2), (3, .int s0)] [.int 4, .int (x1 + 2), .ref 90] h))) ∧ (s0 = 99 → td_J G d mX10_readPerson Post 142 [(0, .ref 85), (1, .int x1), (2, .int x2), (3, .int s0)] [.int 3, .int (x1 + 2), .ref 90] h))) ∧ (s0 = 116 → td_J G d mX10_readPerson Post 142 [(0, .ref 85), (1, .int x1), (2, .int x2), (3, .int s0)] [.int 2, .int (x1 + 2), .ref 90] h))) ∧ (s0 = 98 → td_J G d mX10_readPerson Post 142 [(0, .ref 85), (1, .int x1), (2, .int x2), (3, .int s0)] [.int 1, .int (x1 + 2), .ref 90] h))) ∧ (s0 = 119 → td_J G d mX10_readPerson Post 142 [(0, .ref 85), (1, .int x1), (2, .int x2), (3, .int s0)] [.int 0, .int (x1 + 2), .ref 90] h)) : td_J G d mX10_readPerson Post 73 [(0, .ref 85), (1, .int x1), (2, .int x2)] [.int s0] h := by
  refine td_istore_n (lv2 := [(0, .ref 85), (1, .int x1), (2, .int x2), (3, .int s0)]) dX10_readPerson_73 (by decide) rfl ?_
  refine td_aload_n 0 dX10_readPerson_74 rfl ?_
  refine gf_X10_22 rfl kp_85 dX10_readPerson_75 ?_
  refine td_iload_n 1 dX10_readPerson_78 rfl ?_
  refine td_iconst (v := 2) dX10_readPerson_79 (by decide) ?_
  refine td_iadd dX10_readPerson_80 ?_
  refine td_iload_n 3 dX10_readPerson_81 rfl ?_
  refine td_bipush (v := 119) dX10_readPerson_82 (by decide) ?_
  obtain ⟨Kt, Kf⟩ := K
  refine td_icmp_ne (tgt := 91) dX10_readPerson_84 (by decide) (fun q => ?_) (fun q => ?_)
  · have K := Kt q
    refine td_iload_n 3 dX10_readPerson_91 rfl ?_
    refine td_bipush (v := 98) dX10_readPerson_92 (by decide) ?_
    obtain ⟨Kt, Kf⟩ := K
    refine td_icmp_ne (tgt := 101) dX10_readPerson_94 (by decide) (fun q => ?_) (fun q => ?_)
    · have K := Kt q
      refine td_iload_n 3 dX10_readPerson_101 rfl ?_
      refine td_bipush (v := 116) dX10_readPerson_102 (by decide) ?_
      obtain ⟨Kt, Kf⟩ := K
      refine td_icmp_ne (tgt := 111) dX10_readPerson_104 (by decide) (fun q => ?_) (fun q => ?_)
      · have K := Kt q
        refine td_iload_n 3 dX10_readPerson_111 rfl ?_
        refine td_bipush (v := 99) dX10_readPerson_112 (by decide) ?_
        obtain ⟨Kt, Kf⟩ := K
        refine td_icmp_ne (tgt := 121) dX10_readPerson_114 (by decide) (fun q => ?_) (fun q => ?_)
        · have K := Kt q
          refine td_iload_n 3 dX10_readPerson_121 rfl ?_
          refine td_bipush (v := 104) dX10_readPerson_122 (by decide) ?_
          obtain ⟨Kt, Kf⟩ := K
          refine td_icmp_ne (tgt := 131) dX10_readPerson_124 (by decide) (fun q => ?_) (fun q => ?_)
          · have K := Kt q
            refine td_iload_n 3 dX10_readPerson_131 rfl ?_
            refine td_bipush (v := 100) dX10_readPerson_132 (by decide) ?_
            obtain ⟨Kt, Kf⟩ := K
            refine td_icmp_ne (tgt := 141) dX10_readPerson_134 (by decide) (fun q => ?_) (fun q => ?_)
            · have K := Kt q
              refine td_iconst (v := (-1)) dX10_readPerson_141 (by decide) ?_
              exact K
            · have K := Kf q
              refine td_iconst (v := 5) dX10_readPerson_137 (by decide) ?_
              refine td_goto (tgt := 142) dX10_readPerson_138 (by decide) ?_
              exact K
          · have K := Kf q
            refine td_iconst (v := 4) dX10_readPerson_127 (by decide) ?_
            refine td_goto (tgt := 142) dX10_readPerson_128 (by decide) ?_
            exact K
        · have K := Kf q
          refine td_iconst (v := 3) dX10_readPerson_117 (by decide) ?_
          refine td_goto (tgt := 142) dX10_readPerson_118 (by decide) ?_
          exact K
      · have K := Kf q
        refine td_iconst (v := 2) dX10_readPerson_107 (by decide) ?_
        refine td_goto (tgt := 142) dX10_readPerson_108 (by decide) ?_
        exact K
    · have K := Kf q
      refine td_iconst (v := 1) dX10_readPerson_97 (by decide) ?_
      refine td_goto (tgt := 142) dX10_readPerson_98 (by decide) ?_
      exact K
  · have K := Kf q
    refine td_iconst (v := 0) dX10_readPerson_87 (by decide) ?_
    refine td_goto (tgt := 142) dX10_readPerson_88 (by decide) ?_
    exact K
set_option maxRecDepth 20000 in
theorem rX10_readPerson_142 {G : td_G} {d : Nat} {Post : td_P} {a0 na0 : Nat} {x1 x2 x3 s1 s2 : Int32} {h : td_H} (ha0 : td_kd a0 = 100 + na0) (ga0 : na0 ≠ 899) (K : vp_in s1 na0 ∧ (vp_in (x1 + 2) 24 ∧ ((0 ≤ ((hu h a0 (ix s1) s2) 90 (ix (x1 + 2))) → (Post (some (.int 1)) (hu (hu h a0 (ix s1) s2) 85 6 (((hu h a0 (ix s1) s2) 85 6) + 1)))) ∧ (¬ 0 ≤ ((hu h a0 (ix s1) s2) 90 (ix (x1 + 2))) → (Post (some (.int 0)) (hu h a0 (ix s1) s2)))))) : td_J G d mX10_readPerson Post 142 [(0, .ref 85), (1, .int x1), (2, .int x2), (3, .int x3)] [.int s2, .int s1, .ref a0] h := by
  obtain ⟨e142, K⟩ := K
  refine td_iastc (j := (ix s1)) ha0 ga0 e142 rfl dX10_readPerson_142 ?_
  refine td_aload_n 0 dX10_readPerson_143 rfl ?_
  refine gf_X10_22 rfl kp_85 dX10_readPerson_144 ?_
  refine td_iload_n 1 dX10_readPerson_147 rfl ?_
  refine td_iconst (v := 2) dX10_readPerson_148 (by decide) ?_
  refine td_iadd dX10_readPerson_149 ?_
  obtain ⟨e150, K⟩ := K
  refine td_ialdc (j := (ix (x1 + 2))) kp_90 (by decide) e150 rfl dX10_readPerson_150 ?_
  obtain ⟨Kt, Kf⟩ := K
  refine td_if_ge (tgt := 156) dX10_readPerson_151 (by decide) (fun q => ?_) (fun q => ?_)
  · have K := Kt q
    refine td_aload_n 0 dX10_readPerson_156 rfl ?_
    refine td_dup dX10_readPerson_157 rfl ?_
    refine gf_X10_139 rfl kp_85 dX10_readPerson_158 ?_
    refine td_iconst (v := 1) dX10_readPerson_161 (by decide) ?_
    refine td_iadd dX10_readPerson_162 ?_
    refine pf_X10_139 rfl kp_85 dX10_readPerson_163 ?_
    refine td_iconst (v := 1) dX10_readPerson_166 (by decide) ?_
    exact td_zreturn rfl rfl dX10_readPerson_167 K
  · have K := Kf q
    refine td_iconst (v := 0) dX10_readPerson_154 (by decide) ?_
    exact td_zreturn rfl rfl dX10_readPerson_155 K
set_option maxRecDepth 20000 in
theorem rX10_readPeople_0 {G : td_G} {d : Nat} {Post : td_P} {h : td_H} (K : td_J G d mX10_readPeople Post 7 [(0, .ref 85), (1, .int 0)] [] (hu h 85 6 0)) : td_J G d mX10_readPeople Post 0 [(0, .ref 85)] [] h := by
  refine td_aload_n 0 dX10_readPeople_0 rfl ?_
  refine td_iconst (v := 0) dX10_readPeople_1 (by decide) ?_
  refine pf_X10_139 rfl kp_85 dX10_readPeople_2 ?_
  refine td_iconst (v := 0) dX10_readPeople_5 (by decide) ?_
  refine td_istore_n (lv2 := [(0, .ref 85), (1, .int 0)]) dX10_readPeople_6 (by decide) rfl ?_
  exact K
set_option maxRecDepth 20000 in
theorem rX10_readPeople_7 {G : td_G} {d : Nat} {Post : td_P} {x1 : Int32} {h : td_H} (K : (8 ≤ x1 → (Post (some (.int 0)) h)) ∧ (¬ 8 ≤ x1 → td_J G d mX10_readPeople Post 17 [(0, .ref 85), (1, .int x1)] [.int (3 * x1), .ref 85] h)) : td_J G d mX10_readPeople Post 7 [(0, .ref 85), (1, .int x1)] [] h := by
  refine td_iload_n 1 dX10_readPeople_7 rfl ?_
  refine td_bipush (v := 8) dX10_readPeople_8 (by decide) ?_
  obtain ⟨Kt, Kf⟩ := K
  refine td_icmp_ge (tgt := 73) dX10_readPeople_10 (by decide) (fun q => ?_) (fun q => ?_)
  · have K := Kt q
    refine td_iconst (v := 0) dX10_readPeople_73 (by decide) ?_
    exact td_zreturn rfl rfl dX10_readPeople_74 K
  · have K := Kf q
    refine td_aload_n 0 dX10_readPeople_13 rfl ?_
    refine td_iconst (v := 3) dX10_readPeople_14 (by decide) ?_
    refine td_iload_n 1 dX10_readPeople_15 rfl ?_
    refine td_imul dX10_readPeople_16 ?_
    exact K
set_option maxRecDepth 20000 in
theorem rX10_readPeople_20 {G : td_G} {d : Nat} {Post : td_P} {x1 s0 : Int32} {h : td_H} (K : (¬ s0 = 0 → td_J G d mX10_readPeople Post 33 [(0, .ref 85), (1, .int x1)] [.ref 85] (hu h 85 7 (x1 + 1))) ∧ (s0 = 0 → (Post (some (.int 0)) h))) : td_J G d mX10_readPeople Post 20 [(0, .ref 85), (1, .int x1)] [.int s0] h := by
  obtain ⟨Kt, Kf⟩ := K
  refine td_if_ne (tgt := 25) dX10_readPeople_20 (by decide) (fun q => ?_) (fun q => ?_)
  · have K := Kt q
    refine td_aload_n 0 dX10_readPeople_25 rfl ?_
    refine td_iload_n 1 dX10_readPeople_26 rfl ?_
    refine td_iconst (v := 1) dX10_readPeople_27 (by decide) ?_
    refine td_iadd dX10_readPeople_28 ?_
    refine pf_X10_156 rfl kp_85 dX10_readPeople_29 ?_
    refine td_aload_n 0 dX10_readPeople_32 rfl ?_
    exact K
  · have K := Kf q
    refine td_iconst (v := 0) dX10_readPeople_23 (by decide) ?_
    exact td_zreturn rfl rfl dX10_readPeople_24 K
set_option maxRecDepth 20000 in
theorem rX10_readPeople_36 {G : td_G} {d : Nat} {Post : td_P} {x1 s0 : Int32} {h : td_H} (K : (0 ≤ s0 → ((¬ s0 = 59 → td_J G d mX10_readPeople Post 55 [(0, .ref 85), (1, .int x1), (2, .int s0)] [] h) ∧ (s0 = 59 → ((¬ x1 = 7 → td_J G d mX10_readPeople Post 7 [(0, .ref 85), (1, .int (x1 + 1))] [] (hu h 85 6 ((h 85 6) + 1))) ∧ (x1 = 7 → td_J G d mX10_readPeople Post 55 [(0, .ref 85), (1, .int x1), (2, .int s0)] [] h))))) ∧ (¬ 0 ≤ s0 → (Post (some (.int 1)) h))) : td_J G d mX10_readPeople Post 36 [(0, .ref 85), (1, .int x1)] [.int s0] h := by
  refine td_istore_n (lv2 := [(0, .ref 85), (1, .int x1), (2, .int s0)]) dX10_readPeople_36 (by decide) rfl ?_
  refine td_iload_n 2 dX10_readPeople_37 rfl ?_
  obtain ⟨Kt, Kf⟩ := K
  refine td_if_ge (tgt := 43) dX10_readPeople_38 (by decide) (fun q => ?_) (fun q => ?_)
  · have K := Kt q
    refine td_iload_n 2 dX10_readPeople_43 rfl ?_
    refine td_bipush (v := 59) dX10_readPeople_44 (by decide) ?_
    obtain ⟨Kt, Kf⟩ := K
    refine td_icmp_ne (tgt := 55) dX10_readPeople_46 (by decide) (fun q => ?_) (fun q => ?_)
    · have K := Kt q
      exact K
    · have K := Kf q
      refine td_iload_n 1 dX10_readPeople_49 rfl ?_
      refine td_bipush (v := 7) dX10_readPeople_50 (by decide) ?_
      obtain ⟨Kt, Kf⟩ := K
      refine td_icmp_ne (tgt := 57) dX10_readPeople_52 (by decide) (fun q => ?_) (fun q => ?_)
      · have K := Kt q
        refine td_aload_n 0 dX10_readPeople_57 rfl ?_
        refine td_dup dX10_readPeople_58 rfl ?_
        refine gf_X10_139 rfl kp_85 dX10_readPeople_59 ?_
        refine td_iconst (v := 1) dX10_readPeople_62 (by decide) ?_
        refine td_iadd dX10_readPeople_63 ?_
        refine pf_X10_139 rfl kp_85 dX10_readPeople_64 ?_
        refine td_iinc 1 (v := x1 + 1) (lv2 := [(0, .ref 85), (1, .int (x1 + 1)), (2, .int s0)]) dX10_readPeople_67 rfl (congrArg (x1 + ·) (by decide)) (by decide) rfl ?_
        refine td_goto (tgt := 7) dX10_readPeople_70 (by decide) ?_
        refine td_drop [0, 1] rfl ?_
        exact K
      · have K := Kf q
        exact K
  · have K := Kf q
    refine td_iconst (v := 1) dX10_readPeople_41 (by decide) ?_
    exact td_zreturn rfl rfl dX10_readPeople_42 K
set_option maxRecDepth 20000 in
theorem rX10_readPeople_55 {G : td_G} {d : Nat} {Post : td_P} {x1 x2 : Int32} {h : td_H} (K : Post (some (.int 0)) h) : td_J G d mX10_readPeople Post 55 [(0, .ref 85), (1, .int x1), (2, .int x2)] [] h := by
  refine td_iconst (v := 0) dX10_readPeople_55 (by decide) ?_
  exact td_zreturn rfl rfl dX10_readPeople_56 K
set_option maxRecDepth 20000 in
theorem rX10_people_0 {G : td_G} {d : Nat} {Post : td_P} {h : td_H} (K : td_J G d mX10_people Post 1 [(0, .ref 85)] [.ref 85] h) : td_J G d mX10_people Post 0 [(0, .ref 85)] [] h := by
  refine td_aload_n 0 dX10_people_0 rfl ?_
  exact K
set_option maxRecDepth 20000 in
theorem rX10_people_4 {G : td_G} {d : Nat} {Post : td_P} {s0 : Int32} {h : td_H} (K : (¬ s0 = 0 → (((((hu h 85 5 0) 86 9) + ((hu h 85 5 0) 85 7)) ≤ 12 → td_J G d mX10_people Post 44 [(0, .ref 85), (1, .int s0), (2, .int 0)] [] (hu h 85 5 0)) ∧ (¬ (((hu h 85 5 0) 86 9) + ((hu h 85 5 0) 85 7)) ≤ 12 → (Post (some (.int (-3))) (hu h 85 5 0))))) ∧ (s0 = 0 → (Post (some (.int ((-20) - ((hu h 85 5 0) 85 6)))) (hu h 85 5 0)))) : td_J G d mX10_people Post 4 [(0, .ref 85)] [.int s0] h := by
  refine td_istore_n (lv2 := [(0, .ref 85), (1, .int s0)]) dX10_people_4 (by decide) rfl ?_
  refine td_aload_n 0 dX10_people_5 rfl ?_
  refine td_iconst (v := 0) dX10_people_6 (by decide) ?_
  refine pf_X10_136 rfl kp_85 dX10_people_7 ?_
  refine td_iload_n 1 dX10_people_10 rfl ?_
  obtain ⟨Kt, Kf⟩ := K
  refine td_if_ne (tgt := 22) dX10_people_11 (by decide) (fun q => ?_) (fun q => ?_)
  · have K := Kt q
    refine td_aload_n 0 dX10_people_22 rfl ?_
    refine gf_X10_7 rfl kp_85 dX10_people_23 ?_
    refine td_bipush (v := 9) dX10_people_26 (by decide) ?_
    refine td_ialdc (j := 9) kp_86 (by decide) (by unfold vp_in; decide) (by decide) dX10_people_28 ?_
    refine td_aload_n 0 dX10_people_29 rfl ?_
    refine gf_X10_156 rfl kp_85 dX10_people_30 ?_
    refine td_iadd dX10_people_33 ?_
    refine td_bipush (v := 12) dX10_people_34 (by decide) ?_
    obtain ⟨Kt, Kf⟩ := K
    refine td_icmp_le (tgt := 42) dX10_people_36 (by decide) (fun q => ?_) (fun q => ?_)
    · have K := Kt q
      refine td_iconst (v := 0) dX10_people_42 (by decide) ?_
      refine td_istore_n (lv2 := [(0, .ref 85), (1, .int s0), (2, .int 0)]) dX10_people_43 (by decide) rfl ?_
      exact K
    · have K := Kf q
      refine td_bipush (v := (-3)) dX10_people_39 (by decide) ?_
      exact td_ireturn rfl dX10_people_41 K
  · have K := Kf q
    refine td_bipush (v := (-20)) dX10_people_14 (by decide) ?_
    refine td_aload_n 0 dX10_people_16 rfl ?_
    refine gf_X10_139 rfl kp_85 dX10_people_17 ?_
    refine td_isub dX10_people_20 ?_
    exact td_ireturn rfl dX10_people_21 K
set_option maxRecDepth 20000 in
theorem rX10_people_44 {G : td_G} {d : Nat} {Post : td_P} {x1 x2 : Int32} {h : td_H} (K : ((h 85 7) ≤ x2 → (Post (some (.int (h 85 7))) h)) ∧ (¬ (h 85 7) ≤ x2 → (vp_in (3 * x2) 24 ∧ (vp_in ((3 * x2) + 1) 24 ∧ (vp_in ((3 * x2) + 2) 24 ∧ (td_J G d mX10_people Post 81 [(0, .ref 85), (1, .int x1), (2, .int x2)] [.int (h 90 (ix ((3 * x2) + 2))), .int (h 90 (ix ((3 * x2) + 1))), .int (h 90 (ix (3 * x2))), .ref 85] h)))))) : td_J G d mX10_people Post 44 [(0, .ref 85), (1, .int x1), (2, .int x2)] [] h := by
  refine td_iload_n 2 dX10_people_44 rfl ?_
  refine td_aload_n 0 dX10_people_45 rfl ?_
  refine gf_X10_156 rfl kp_85 dX10_people_46 ?_
  obtain ⟨Kt, Kf⟩ := K
  refine td_icmp_ge (tgt := 90) dX10_people_49 (by decide) (fun q => ?_) (fun q => ?_)
  · have K := Kt q
    refine td_aload_n 0 dX10_people_90 rfl ?_
    refine gf_X10_156 rfl kp_85 dX10_people_91 ?_
    exact td_ireturn rfl dX10_people_94 K
  · have K := Kf q
    refine td_aload_n 0 dX10_people_52 rfl ?_
    refine td_aload_n 0 dX10_people_53 rfl ?_
    refine gf_X10_22 rfl kp_85 dX10_people_54 ?_
    refine td_iconst (v := 3) dX10_people_57 (by decide) ?_
    refine td_iload_n 2 dX10_people_58 rfl ?_
    refine td_imul dX10_people_59 ?_
    obtain ⟨e60, K⟩ := K
    refine td_ialdc (j := (ix (3 * x2))) kp_90 (by decide) e60 rfl dX10_people_60 ?_
    refine td_aload_n 0 dX10_people_61 rfl ?_
    refine gf_X10_22 rfl kp_85 dX10_people_62 ?_
    refine td_iconst (v := 3) dX10_people_65 (by decide) ?_
    refine td_iload_n 2 dX10_people_66 rfl ?_
    refine td_imul dX10_people_67 ?_
    refine td_iconst (v := 1) dX10_people_68 (by decide) ?_
    refine td_iadd dX10_people_69 ?_
    obtain ⟨e70, K⟩ := K
    refine td_ialdc (j := (ix ((3 * x2) + 1))) kp_90 (by decide) e70 rfl dX10_people_70 ?_
    refine td_aload_n 0 dX10_people_71 rfl ?_
    refine gf_X10_22 rfl kp_85 dX10_people_72 ?_
    refine td_iconst (v := 3) dX10_people_75 (by decide) ?_
    refine td_iload_n 2 dX10_people_76 rfl ?_
    refine td_imul dX10_people_77 ?_
    refine td_iconst (v := 2) dX10_people_78 (by decide) ?_
    refine td_iadd dX10_people_79 ?_
    obtain ⟨e80, K⟩ := K
    refine td_ialdc (j := (ix ((3 * x2) + 2))) kp_90 (by decide) e80 rfl dX10_people_80 ?_
    exact K
set_option maxRecDepth 20000 in
theorem rX10_people_84 {G : td_G} {d : Nat} {Post : td_P} {x1 x2 : Int32} {h : td_H} (K : td_J G d mX10_people Post 44 [(0, .ref 85), (1, .int x1), (2, .int (x2 + 1))] [] h) : td_J G d mX10_people Post 84 [(0, .ref 85), (1, .int x1), (2, .int x2)] [] h := by
  refine td_iinc 2 (v := x2 + 1) (lv2 := [(0, .ref 85), (1, .int x1), (2, .int (x2 + 1))]) dX10_people_84 rfl (congrArg (x2 + ·) (by decide)) (by decide) rfl ?_
  refine td_goto (tgt := 44) dX10_people_87 (by decide) ?_
  exact K
set_option maxRecDepth 20000 in
theorem rX10_count_0 {G : td_G} {d : Nat} {Post : td_P} {x1 : Int32} {h : td_H} (K : td_J G d mX10_count Post 4 [(0, .ref 85), (1, .int x1), (2, .int 0), (3, .int 0)] [] h) : td_J G d mX10_count Post 0 [(0, .ref 85), (1, .int x1)] [] h := by
  refine td_iconst (v := 0) dX10_count_0 (by decide) ?_
  refine td_istore_n (lv2 := [(0, .ref 85), (1, .int x1), (2, .int 0)]) dX10_count_1 (by decide) rfl ?_
  refine td_iconst (v := 0) dX10_count_2 (by decide) ?_
  refine td_istore_n (lv2 := [(0, .ref 85), (1, .int x1), (2, .int 0), (3, .int 0)]) dX10_count_3 (by decide) rfl ?_
  exact K
set_option maxRecDepth 20000 in
theorem rX10_count_4 {G : td_G} {d : Nat} {Post : td_P} {x1 x2 x3 : Int32} {h : td_H} (K : ((h 86 9) ≤ x3 → ((¬ x1 = 0 → ((¬ x1 = 1 → td_J G d mX10_count Post 62 [(0, .ref 85), (1, .int x1), (2, .int x2), (3, .int x3)] [.int (-1)] h) ∧ (x1 = 1 → td_J G d mX10_count Post 62 [(0, .ref 85), (1, .int x1), (2, .int x2), (3, .int x3)] [.int x2] h))) ∧ (x1 = 0 → td_J G d mX10_count Post 62 [(0, .ref 85), (1, .int x1), (2, .int x2), (3, .int x3)] [.int (h 86 9)] h))) ∧ (¬ (h 86 9) ≤ x3 → td_J G d mX10_count Post 19 [(0, .ref 85), (1, .int x1), (2, .int x2), (3, .int x3)] [.int 1, .int x3, .ref 85, .int x2] h)) : td_J G d mX10_count Post 4 [(0, .ref 85), (1, .int x1), (2, .int x2), (3, .int x3)] [] h := by
  refine td_iload_n 3 dX10_count_4 rfl ?_
  refine td_aload_n 0 dX10_count_5 rfl ?_
  refine gf_X10_7 rfl kp_85 dX10_count_6 ?_
  refine td_bipush (v := 9) dX10_count_9 (by decide) ?_
  refine td_ialdc (j := 9) kp_86 (by decide) (by unfold vp_in; decide) (by decide) dX10_count_11 ?_
  obtain ⟨Kt, Kf⟩ := K
  refine td_icmp_ge (tgt := 38) dX10_count_12 (by decide) (fun q => ?_) (fun q => ?_)
  · have K := Kt q
    refine td_iload_n 1 dX10_count_38 rfl ?_
    obtain ⟨Kt, Kf⟩ := K
    refine td_if_ne (tgt := 52) dX10_count_39 (by decide) (fun q => ?_) (fun q => ?_)
    · have K := Kt q
      refine td_iload_n 1 dX10_count_52 rfl ?_
      refine td_iconst (v := 1) dX10_count_53 (by decide) ?_
      obtain ⟨Kt, Kf⟩ := K
      refine td_icmp_ne (tgt := 61) dX10_count_54 (by decide) (fun q => ?_) (fun q => ?_)
      · have K := Kt q
        refine td_iconst (v := (-1)) dX10_count_61 (by decide) ?_
        exact K
      · have K := Kf q
        refine td_iload_n 2 dX10_count_57 rfl ?_
        refine td_goto (tgt := 62) dX10_count_58 (by decide) ?_
        exact K
    · have K := Kf q
      refine td_aload_n 0 dX10_count_42 rfl ?_
      refine gf_X10_7 rfl kp_85 dX10_count_43 ?_
      refine td_bipush (v := 9) dX10_count_46 (by decide) ?_
      refine td_ialdc (j := 9) kp_86 (by decide) (by unfold vp_in; decide) (by decide) dX10_count_48 ?_
      refine td_goto (tgt := 62) dX10_count_49 (by decide) ?_
      exact K
  · have K := Kf q
    refine td_iload_n 2 dX10_count_15 rfl ?_
    refine td_aload_n 0 dX10_count_16 rfl ?_
    refine td_iload_n 3 dX10_count_17 rfl ?_
    refine td_iconst (v := 1) dX10_count_18 (by decide) ?_
    exact K
set_option maxRecDepth 20000 in
theorem rX10_count_22 {G : td_G} {d : Nat} {Post : td_P} {x1 x2 x3 s0 s1 : Int32} {h : td_H} (K : (¬ s1 = 0 → td_J G d mX10_count Post 30 [(0, .ref 85), (1, .int x1), (2, .int x2), (3, .int x3)] [.int 0, .int s0] h) ∧ (s1 = 0 → td_J G d mX10_count Post 30 [(0, .ref 85), (1, .int x1), (2, .int x2), (3, .int x3)] [.int 1, .int s0] h)) : td_J G d mX10_count Post 22 [(0, .ref 85), (1, .int x1), (2, .int x2), (3, .int x3)] [.int s1, .int s0] h := by
  obtain ⟨Kt, Kf⟩ := K
  refine td_if_ne (tgt := 29) dX10_count_22 (by decide) (fun q => ?_) (fun q => ?_)
  · have K := Kt q
    refine td_iconst (v := 0) dX10_count_29 (by decide) ?_
    exact K
  · have K := Kf q
    refine td_iconst (v := 1) dX10_count_25 (by decide) ?_
    refine td_goto (tgt := 30) dX10_count_26 (by decide) ?_
    exact K
set_option maxRecDepth 20000 in
theorem rX10_count_30 {G : td_G} {d : Nat} {Post : td_P} {x1 x2 x3 s0 s1 : Int32} {h : td_H} (K : td_J G d mX10_count Post 4 [(0, .ref 85), (1, .int x1), (2, .int (s0 + s1)), (3, .int (x3 + 1))] [] h) : td_J G d mX10_count Post 30 [(0, .ref 85), (1, .int x1), (2, .int x2), (3, .int x3)] [.int s1, .int s0] h := by
  refine td_iadd dX10_count_30 ?_
  refine td_istore_n (lv2 := [(0, .ref 85), (1, .int x1), (2, .int (s0 + s1)), (3, .int x3)]) dX10_count_31 (by decide) rfl ?_
  refine td_iinc 3 (v := x3 + 1) (lv2 := [(0, .ref 85), (1, .int x1), (2, .int (s0 + s1)), (3, .int (x3 + 1))]) dX10_count_32 rfl (congrArg (x3 + ·) (by decide)) (by decide) rfl ?_
  refine td_goto (tgt := 4) dX10_count_35 (by decide) ?_
  exact K
set_option maxRecDepth 20000 in
theorem rX10_count_62 {G : td_G} {d : Nat} {Post : td_P} {x1 x2 x3 s0 : Int32} {h : td_H} (K : Post (some (.int s0)) h) : td_J G d mX10_count Post 62 [(0, .ref 85), (1, .int x1), (2, .int x2), (3, .int x3)] [.int s0] h := by
  exact td_ireturn rfl dX10_count_62 K
set_option maxRecDepth 20000 in
theorem rX10_inState_0 {G : td_G} {d : Nat} {Post : td_P} {x1 : Int32} {h : td_H} (K : td_J G d mX10_inState Post 4 [(0, .ref 85), (1, .int x1), (2, .int 0), (3, .int 0)] [] h) : td_J G d mX10_inState Post 0 [(0, .ref 85), (1, .int x1)] [] h := by
  refine td_iconst (v := 0) dX10_inState_0 (by decide) ?_
  refine td_istore_n (lv2 := [(0, .ref 85), (1, .int x1), (2, .int 0)]) dX10_inState_1 (by decide) rfl ?_
  refine td_iconst (v := 0) dX10_inState_2 (by decide) ?_
  refine td_istore_n (lv2 := [(0, .ref 85), (1, .int x1), (2, .int 0), (3, .int 0)]) dX10_inState_3 (by decide) rfl ?_
  exact K
set_option maxRecDepth 20000 in
theorem rX10_inState_4 {G : td_G} {d : Nat} {Post : td_P} {x1 x2 x3 : Int32} {h : td_H} (K : ((h 86 9) ≤ x3 → (Post (some (.int x2)) h)) ∧ (¬ (h 86 9) ≤ x3 → (vp_in x3 12 ∧ ((¬ (h 91 (ix x3)) = x1 → td_J G d mX10_inState Post 33 [(0, .ref 85), (1, .int x1), (2, .int x2), (3, .int x3)] [.int 0, .int x2] h) ∧ ((h 91 (ix x3)) = x1 → td_J G d mX10_inState Post 33 [(0, .ref 85), (1, .int x1), (2, .int x2), (3, .int x3)] [.int (jshl 1 x3), .int x2] h))))) : td_J G d mX10_inState Post 4 [(0, .ref 85), (1, .int x1), (2, .int x2), (3, .int x3)] [] h := by
  refine td_iload_n 3 dX10_inState_4 rfl ?_
  refine td_aload_n 0 dX10_inState_5 rfl ?_
  refine gf_X10_7 rfl kp_85 dX10_inState_6 ?_
  refine td_bipush (v := 9) dX10_inState_9 (by decide) ?_
  refine td_ialdc (j := 9) kp_86 (by decide) (by unfold vp_in; decide) (by decide) dX10_inState_11 ?_
  obtain ⟨Kt, Kf⟩ := K
  refine td_icmp_ge (tgt := 41) dX10_inState_12 (by decide) (fun q => ?_) (fun q => ?_)
  · have K := Kt q
    refine td_iload_n 2 dX10_inState_41 rfl ?_
    exact td_ireturn rfl dX10_inState_42 K
  · have K := Kf q
    refine td_iload_n 2 dX10_inState_15 rfl ?_
    refine td_aload_n 0 dX10_inState_16 rfl ?_
    refine gf_X10_25 rfl kp_85 dX10_inState_17 ?_
    refine td_iload_n 3 dX10_inState_20 rfl ?_
    obtain ⟨e21, K⟩ := K
    refine td_ialdc (j := (ix x3)) kp_91 (by decide) e21 rfl dX10_inState_21 ?_
    refine td_iload_n 1 dX10_inState_22 rfl ?_
    obtain ⟨Kt, Kf⟩ := K
    refine td_icmp_ne (tgt := 32) dX10_inState_23 (by decide) (fun q => ?_) (fun q => ?_)
    · have K := Kt q
      refine td_iconst (v := 0) dX10_inState_32 (by decide) ?_
      exact K
    · have K := Kf q
      refine td_iconst (v := 1) dX10_inState_26 (by decide) ?_
      refine td_iload_n 3 dX10_inState_27 rfl ?_
      refine td_ishl dX10_inState_28 ?_
      refine td_goto (tgt := 33) dX10_inState_29 (by decide) ?_
      exact K
set_option maxRecDepth 20000 in
theorem rX10_inState_33 {G : td_G} {d : Nat} {Post : td_P} {x1 x2 x3 s0 s1 : Int32} {h : td_H} (K : td_J G d mX10_inState Post 4 [(0, .ref 85), (1, .int x1), (2, .int (s0 ||| s1)), (3, .int (x3 + 1))] [] h) : td_J G d mX10_inState Post 33 [(0, .ref 85), (1, .int x1), (2, .int x2), (3, .int x3)] [.int s1, .int s0] h := by
  refine td_ior dX10_inState_33 ?_
  refine td_istore_n (lv2 := [(0, .ref 85), (1, .int x1), (2, .int (s0 ||| s1)), (3, .int x3)]) dX10_inState_34 (by decide) rfl ?_
  refine td_iinc 3 (v := x3 + 1) (lv2 := [(0, .ref 85), (1, .int x1), (2, .int (s0 ||| s1)), (3, .int (x3 + 1))]) dX10_inState_35 rfl (congrArg (x3 + ·) (by decide)) (by decide) rfl ?_
  refine td_goto (tgt := 4) dX10_inState_38 (by decide) ?_
  exact K
set_option maxRecDepth 20000 in
theorem rX10_insideOf_0 {G : td_G} {d : Nat} {Post : td_P} {x1 : Int32} {h : td_H} (K : td_J G d mX10_insideOf Post 4 [(0, .ref 85), (1, .int x1), (2, .int 0), (3, .int 0)] [] h) : td_J G d mX10_insideOf Post 0 [(0, .ref 85), (1, .int x1)] [] h := by
  refine td_iconst (v := 0) dX10_insideOf_0 (by decide) ?_
  refine td_istore_n (lv2 := [(0, .ref 85), (1, .int x1), (2, .int 0)]) dX10_insideOf_1 (by decide) rfl ?_
  refine td_iconst (v := 0) dX10_insideOf_2 (by decide) ?_
  refine td_istore_n (lv2 := [(0, .ref 85), (1, .int x1), (2, .int 0), (3, .int 0)]) dX10_insideOf_3 (by decide) rfl ?_
  exact K
set_option maxRecDepth 20000 in
theorem rX10_insideOf_4 {G : td_G} {d : Nat} {Post : td_P} {x1 x2 x3 : Int32} {h : td_H} (K : ((h 86 9) ≤ x3 → (Post (some (.int x2)) h)) ∧ (¬ (h 86 9) ≤ x3 → (vp_in x3 12 ∧ ((¬ (h 91 (ix x3)) = 2 → td_J G d mX10_insideOf Post 42 [(0, .ref 85), (1, .int x1), (2, .int x2), (3, .int x3)] [.int x2] h) ∧ ((h 91 (ix x3)) = 2 → (vp_in x3 12 ∧ ((¬ (h 92 (ix x3)) = x1 → td_J G d mX10_insideOf Post 42 [(0, .ref 85), (1, .int x1), (2, .int x2), (3, .int x3)] [.int x2] h) ∧ ((h 92 (ix x3)) = x1 → td_J G d mX10_insideOf Post 43 [(0, .ref 85), (1, .int x1), (2, .int x2), (3, .int x3)] [.int (jshl 1 x3), .int x2] h)))))))) : td_J G d mX10_insideOf Post 4 [(0, .ref 85), (1, .int x1), (2, .int x2), (3, .int x3)] [] h := by
  refine td_iload_n 3 dX10_insideOf_4 rfl ?_
  refine td_aload_n 0 dX10_insideOf_5 rfl ?_
  refine gf_X10_7 rfl kp_85 dX10_insideOf_6 ?_
  refine td_bipush (v := 9) dX10_insideOf_9 (by decide) ?_
  refine td_ialdc (j := 9) kp_86 (by decide) (by unfold vp_in; decide) (by decide) dX10_insideOf_11 ?_
  obtain ⟨Kt, Kf⟩ := K
  refine td_icmp_ge (tgt := 51) dX10_insideOf_12 (by decide) (fun q => ?_) (fun q => ?_)
  · have K := Kt q
    refine td_iload_n 2 dX10_insideOf_51 rfl ?_
    exact td_ireturn rfl dX10_insideOf_52 K
  · have K := Kf q
    refine td_iload_n 2 dX10_insideOf_15 rfl ?_
    refine td_aload_n 0 dX10_insideOf_16 rfl ?_
    refine gf_X10_25 rfl kp_85 dX10_insideOf_17 ?_
    refine td_iload_n 3 dX10_insideOf_20 rfl ?_
    obtain ⟨e21, K⟩ := K
    refine td_ialdc (j := (ix x3)) kp_91 (by decide) e21 rfl dX10_insideOf_21 ?_
    refine td_iconst (v := 2) dX10_insideOf_22 (by decide) ?_
    obtain ⟨Kt, Kf⟩ := K
    refine td_icmp_ne (tgt := 42) dX10_insideOf_23 (by decide) (fun q => ?_) (fun q => ?_)
    · have K := Kt q
      exact K
    · have K := Kf q
      refine td_aload_n 0 dX10_insideOf_26 rfl ?_
      refine gf_X10_28 rfl kp_85 dX10_insideOf_27 ?_
      refine td_iload_n 3 dX10_insideOf_30 rfl ?_
      obtain ⟨e31, K⟩ := K
      refine td_ialdc (j := (ix x3)) kp_92 (by decide) e31 rfl dX10_insideOf_31 ?_
      refine td_iload_n 1 dX10_insideOf_32 rfl ?_
      obtain ⟨Kt, Kf⟩ := K
      refine td_icmp_ne (tgt := 42) dX10_insideOf_33 (by decide) (fun q => ?_) (fun q => ?_)
      · have K := Kt q
        exact K
      · have K := Kf q
        refine td_iconst (v := 1) dX10_insideOf_36 (by decide) ?_
        refine td_iload_n 3 dX10_insideOf_37 rfl ?_
        refine td_ishl dX10_insideOf_38 ?_
        refine td_goto (tgt := 43) dX10_insideOf_39 (by decide) ?_
        exact K
set_option maxRecDepth 20000 in
theorem rX10_insideOf_42 {G : td_G} {d : Nat} {Post : td_P} {x1 x2 x3 s0 : Int32} {h : td_H} (K : td_J G d mX10_insideOf Post 43 [(0, .ref 85), (1, .int x1), (2, .int x2), (3, .int x3)] [.int 0, .int s0] h) : td_J G d mX10_insideOf Post 42 [(0, .ref 85), (1, .int x1), (2, .int x2), (3, .int x3)] [.int s0] h := by
  refine td_iconst (v := 0) dX10_insideOf_42 (by decide) ?_
  exact K
set_option maxRecDepth 20000 in
theorem rX10_insideOf_43 {G : td_G} {d : Nat} {Post : td_P} {x1 x2 x3 s0 s1 : Int32} {h : td_H} (K : td_J G d mX10_insideOf Post 4 [(0, .ref 85), (1, .int x1), (2, .int (s0 ||| s1)), (3, .int (x3 + 1))] [] h) : td_J G d mX10_insideOf Post 43 [(0, .ref 85), (1, .int x1), (2, .int x2), (3, .int x3)] [.int s1, .int s0] h := by
  refine td_ior dX10_insideOf_43 ?_
  refine td_istore_n (lv2 := [(0, .ref 85), (1, .int x1), (2, .int (s0 ||| s1)), (3, .int x3)]) dX10_insideOf_44 (by decide) rfl ?_
  refine td_iinc 3 (v := x3 + 1) (lv2 := [(0, .ref 85), (1, .int x1), (2, .int (s0 ||| s1)), (3, .int (x3 + 1))]) dX10_insideOf_45 rfl (congrArg (x3 + ·) (by decide)) (by decide) rfl ?_
  refine td_goto (tgt := 4) dX10_insideOf_48 (by decide) ?_
  exact K
set_option maxRecDepth 20000 in
theorem rX10_roomOf_0 {G : td_G} {d : Nat} {Post : td_P} {x1 : Int32} {h : td_H} (K : td_J G d mX10_roomOf Post 9 [(0, .ref 85), (1, .int x1), (2, .int (h 87 2)), (3, .int 0)] [] h) : td_J G d mX10_roomOf Post 0 [(0, .ref 85), (1, .int x1)] [] h := by
  refine td_aload_n 0 dX10_roomOf_0 rfl ?_
  refine gf_X10_13 rfl kp_85 dX10_roomOf_1 ?_
  refine td_iconst (v := 2) dX10_roomOf_4 (by decide) ?_
  refine td_ialdc (j := 2) kp_87 (by decide) (by unfold vp_in; decide) (by decide) dX10_roomOf_5 ?_
  refine td_istore_n (lv2 := [(0, .ref 85), (1, .int x1), (2, .int (h 87 2))]) dX10_roomOf_6 (by decide) rfl ?_
  refine td_iconst (v := 0) dX10_roomOf_7 (by decide) ?_
  refine td_istore_n (lv2 := [(0, .ref 85), (1, .int x1), (2, .int (h 87 2)), (3, .int 0)]) dX10_roomOf_8 (by decide) rfl ?_
  exact K
set_option maxRecDepth 20000 in
theorem rX10_roomOf_9 {G : td_G} {d : Nat} {Post : td_P} {x1 x2 x3 : Int32} {h : td_H} (K : ((h 86 9) ≤ x3 → (Post (some (.int x2)) h)) ∧ (¬ (h 86 9) ≤ x3 → td_J G d mX10_roomOf Post 23 [(0, .ref 85), (1, .int x1), (2, .int x2), (3, .int x3)] [.int x1, .ref 85, .int x2] h)) : td_J G d mX10_roomOf Post 9 [(0, .ref 85), (1, .int x1), (2, .int x2), (3, .int x3)] [] h := by
  refine td_iload_n 3 dX10_roomOf_9 rfl ?_
  refine td_aload_n 0 dX10_roomOf_10 rfl ?_
  refine gf_X10_7 rfl kp_85 dX10_roomOf_11 ?_
  refine td_bipush (v := 9) dX10_roomOf_14 (by decide) ?_
  refine td_ialdc (j := 9) kp_86 (by decide) (by unfold vp_in; decide) (by decide) dX10_roomOf_16 ?_
  obtain ⟨Kt, Kf⟩ := K
  refine td_icmp_ge (tgt := 54) dX10_roomOf_17 (by decide) (fun q => ?_) (fun q => ?_)
  · have K := Kt q
    refine td_iload_n 2 dX10_roomOf_54 rfl ?_
    exact td_ireturn rfl dX10_roomOf_55 K
  · have K := Kf q
    refine td_iload_n 2 dX10_roomOf_20 rfl ?_
    refine td_aload_n 0 dX10_roomOf_21 rfl ?_
    refine td_iload_n 1 dX10_roomOf_22 rfl ?_
    exact K
set_option maxRecDepth 20000 in
theorem rX10_roomOf_26 {G : td_G} {d : Nat} {Post : td_P} {x1 x2 x3 s0 s1 : Int32} {h : td_H} (K : td_J G d mX10_roomOf Post 27 [(0, .ref 85), (1, .int x1), (2, .int x2), (3, .int x3)] [.int x3, .int s1, .int s0] h) : td_J G d mX10_roomOf Post 26 [(0, .ref 85), (1, .int x1), (2, .int x2), (3, .int x3)] [.int s1, .int s0] h := by
  refine td_iload_n 3 dX10_roomOf_26 rfl ?_
  exact K
set_option maxRecDepth 20000 in
theorem rX10_roomOf_30 {G : td_G} {d : Nat} {Post : td_P} {x1 x2 x3 s0 s1 : Int32} {h : td_H} (K : (s1 = 0 → td_J G d mX10_roomOf Post 46 [(0, .ref 85), (1, .int x1), (2, .int x2), (3, .int x3)] [.int 0, .int s0] h) ∧ (¬ s1 = 0 → td_J G d mX10_roomOf Post 36 [(0, .ref 85), (1, .int x1), (2, .int x2), (3, .int x3)] [.int 2, .int x3, .ref 85, .int s0] h)) : td_J G d mX10_roomOf Post 30 [(0, .ref 85), (1, .int x1), (2, .int x2), (3, .int x3)] [.int s1, .int s0] h := by
  obtain ⟨Kt, Kf⟩ := K
  refine td_if_eq (tgt := 45) dX10_roomOf_30 (by decide) (fun q => ?_) (fun q => ?_)
  · have K := Kt q
    refine td_iconst (v := 0) dX10_roomOf_45 (by decide) ?_
    exact K
  · have K := Kf q
    refine td_aload_n 0 dX10_roomOf_33 rfl ?_
    refine td_iload_n 3 dX10_roomOf_34 rfl ?_
    refine td_iconst (v := 2) dX10_roomOf_35 (by decide) ?_
    exact K
set_option maxRecDepth 20000 in
theorem rX10_roomOf_42 {G : td_G} {d : Nat} {Post : td_P} {x1 x2 x3 s0 s1 : Int32} {h : td_H} (K : td_J G d mX10_roomOf Post 46 [(0, .ref 85), (1, .int x1), (2, .int x2), (3, .int x3)] [.int s1, .int s0] h) : td_J G d mX10_roomOf Post 42 [(0, .ref 85), (1, .int x1), (2, .int x2), (3, .int x3)] [.int s1, .int s0] h := by
  refine td_goto (tgt := 46) dX10_roomOf_42 (by decide) ?_
  exact K
set_option maxRecDepth 20000 in
theorem rX10_roomOf_46 {G : td_G} {d : Nat} {Post : td_P} {x1 x2 x3 s0 s1 : Int32} {h : td_H} (K : td_J G d mX10_roomOf Post 9 [(0, .ref 85), (1, .int x1), (2, .int (s0 - s1)), (3, .int (x3 + 1))] [] h) : td_J G d mX10_roomOf Post 46 [(0, .ref 85), (1, .int x1), (2, .int x2), (3, .int x3)] [.int s1, .int s0] h := by
  refine td_isub dX10_roomOf_46 ?_
  refine td_istore_n (lv2 := [(0, .ref 85), (1, .int x1), (2, .int (s0 - s1)), (3, .int x3)]) dX10_roomOf_47 (by decide) rfl ?_
  refine td_iinc 3 (v := x3 + 1) (lv2 := [(0, .ref 85), (1, .int x1), (2, .int (s0 - s1)), (3, .int (x3 + 1))]) dX10_roomOf_48 rfl (congrArg (x3 + ·) (by decide)) (by decide) rfl ?_
  refine td_goto (tgt := 9) dX10_roomOf_51 (by decide) ?_
  exact K
set_option maxRecDepth 20000 in
theorem rX10_through_0 {G : td_G} {d : Nat} {Post : td_P} {x1 x2 : Int32} {h : td_H} (K : vp_in x1 12 ∧ (vp_in x1 12 ∧ (Post none (hu (hu h 91 (ix x1) 3) 94 (ix x1) x2)))) : td_J G d mX10_through Post 0 [(0, .ref 85), (1, .int x1), (2, .int x2)] [] h := by
  refine td_aload_n 0 dX10_through_0 rfl ?_
  refine gf_X10_25 rfl kp_85 dX10_through_1 ?_
  refine td_iload_n 1 dX10_through_4 rfl ?_
  refine td_iconst (v := 3) dX10_through_5 (by decide) ?_
  obtain ⟨e6, K⟩ := K
  refine td_iastc (j := (ix x1)) kp_91 (by decide) e6 rfl dX10_through_6 ?_
  refine td_aload_n 0 dX10_through_7 rfl ?_
  refine gf_X10_34 rfl kp_85 dX10_through_8 ?_
  refine td_iload_n 1 dX10_through_11 rfl ?_
  refine td_iload_n 2 dX10_through_12 rfl ?_
  obtain ⟨e13, K⟩ := K
  refine td_iastc (j := (ix x1)) kp_94 (by decide) e13 rfl dX10_through_13 ?_
  exact td_return rfl dX10_through_14 K
set_option maxRecDepth 20000 in
theorem rX10_push_0 {G : td_G} {d : Nat} {Post : td_P} {h : td_H} (K : ((h 85 19) ≤ 0 → td_J G d mX10_push Post 32 [(0, .ref 85), (1, .int (h 87 3)), (2, .int 0)] [] h) ∧ (¬ (h 85 19) ≤ 0 → (Post none (hu (hu h 85 18 0) 85 19 (((hu h 85 18 0) 85 19) - 1))))) : td_J G d mX10_push Post 0 [(0, .ref 85)] [] h := by
  refine td_aload_n 0 dX10_push_0 rfl ?_
  refine gf_X10_170 rfl kp_85 dX10_push_1 ?_
  obtain ⟨Kt, Kf⟩ := K
  refine td_if_le (tgt := 23) dX10_push_4 (by decide) (fun q => ?_) (fun q => ?_)
  · have K := Kt q
    refine td_aload_n 0 dX10_push_23 rfl ?_
    refine gf_X10_13 rfl kp_85 dX10_push_24 ?_
    refine td_iconst (v := 3) dX10_push_27 (by decide) ?_
    refine td_ialdc (j := 3) kp_87 (by decide) (by unfold vp_in; decide) (by decide) dX10_push_28 ?_
    refine td_istore_n (lv2 := [(0, .ref 85), (1, .int (h 87 3))]) dX10_push_29 (by decide) rfl ?_
    refine td_iconst (v := 0) dX10_push_30 (by decide) ?_
    refine td_istore_n (lv2 := [(0, .ref 85), (1, .int (h 87 3)), (2, .int 0)]) dX10_push_31 (by decide) rfl ?_
    exact K
  · have K := Kf q
    refine td_aload_n 0 dX10_push_7 rfl ?_
    refine td_iconst (v := 0) dX10_push_8 (by decide) ?_
    refine pf_X10_173 rfl kp_85 dX10_push_9 ?_
    refine td_aload_n 0 dX10_push_12 rfl ?_
    refine td_dup dX10_push_13 rfl ?_
    refine gf_X10_170 rfl kp_85 dX10_push_14 ?_
    refine td_iconst (v := 1) dX10_push_17 (by decide) ?_
    refine td_isub dX10_push_18 ?_
    refine pf_X10_170 rfl kp_85 dX10_push_19 ?_
    exact td_return rfl dX10_push_22 K
set_option maxRecDepth 20000 in
theorem rX10_push_32 {G : td_G} {d : Nat} {Post : td_P} {x1 x2 : Int32} {h : td_H} (K : ((h 86 9) ≤ x2 → ((x1 < ((h 87 4) * ((h 85 18) + 1)) → td_J G d mX10_push Post 118 [(0, .ref 85), (1, .int x1), (2, .int x2)] [] h) ∧ (¬ x1 < ((h 87 4) * ((h 85 18) + 1)) → (((h 87 5) ≤ (h 85 18) → td_J G d mX10_push Post 118 [(0, .ref 85), (1, .int x1), (2, .int x2)] [] h) ∧ (¬ (h 87 5) ≤ (h 85 18) → td_J G d mX10_push Post 143 [(0, .ref 85), (1, .int x1), (2, .int x2)] [] (hu h 85 18 ((h 85 18) + 1))))))) ∧ (¬ (h 86 9) ≤ x2 → (vp_in x2 12 ∧ ((¬ (h 91 (ix x2)) = 2 → td_J G d mX10_push Post 67 [(0, .ref 85), (1, .int x1), (2, .int x2)] [.int 0, .int x1] h) ∧ ((h 91 (ix x2)) = 2 → td_J G d mX10_push Post 57 [(0, .ref 85), (1, .int x1), (2, .int x2)] [.int 2, .int x2, .ref 85, .int x1] h))))) : td_J G d mX10_push Post 32 [(0, .ref 85), (1, .int x1), (2, .int x2)] [] h := by
  refine td_iload_n 2 dX10_push_32 rfl ?_
  refine td_aload_n 0 dX10_push_33 rfl ?_
  refine gf_X10_7 rfl kp_85 dX10_push_34 ?_
  refine td_bipush (v := 9) dX10_push_37 (by decide) ?_
  refine td_ialdc (j := 9) kp_86 (by decide) (by unfold vp_in; decide) (by decide) dX10_push_39 ?_
  obtain ⟨Kt, Kf⟩ := K
  refine td_icmp_ge (tgt := 75) dX10_push_40 (by decide) (fun q => ?_) (fun q => ?_)
  · have K := Kt q
    refine td_iload_n 1 dX10_push_75 rfl ?_
    refine td_aload_n 0 dX10_push_76 rfl ?_
    refine gf_X10_13 rfl kp_85 dX10_push_77 ?_
    refine td_iconst (v := 4) dX10_push_80 (by decide) ?_
    refine td_ialdc (j := 4) kp_87 (by decide) (by unfold vp_in; decide) (by decide) dX10_push_81 ?_
    refine td_aload_n 0 dX10_push_82 rfl ?_
    refine gf_X10_173 rfl kp_85 dX10_push_83 ?_
    refine td_iconst (v := 1) dX10_push_86 (by decide) ?_
    refine td_iadd dX10_push_87 ?_
    refine td_imul dX10_push_88 ?_
    obtain ⟨Kt, Kf⟩ := K
    refine td_icmp_lt (tgt := 118) dX10_push_89 (by decide) (fun q => ?_) (fun q => ?_)
    · have K := Kt q
      exact K
    · have K := Kf q
      refine td_aload_n 0 dX10_push_92 rfl ?_
      refine gf_X10_173 rfl kp_85 dX10_push_93 ?_
      refine td_aload_n 0 dX10_push_96 rfl ?_
      refine gf_X10_13 rfl kp_85 dX10_push_97 ?_
      refine td_iconst (v := 5) dX10_push_100 (by decide) ?_
      refine td_ialdc (j := 5) kp_87 (by decide) (by unfold vp_in; decide) (by decide) dX10_push_101 ?_
      obtain ⟨Kt, Kf⟩ := K
      refine td_icmp_ge (tgt := 118) dX10_push_102 (by decide) (fun q => ?_) (fun q => ?_)
      · have K := Kt q
        exact K
      · have K := Kf q
        refine td_aload_n 0 dX10_push_105 rfl ?_
        refine td_dup dX10_push_106 rfl ?_
        refine gf_X10_173 rfl kp_85 dX10_push_107 ?_
        refine td_iconst (v := 1) dX10_push_110 (by decide) ?_
        refine td_iadd dX10_push_111 ?_
        refine pf_X10_173 rfl kp_85 dX10_push_112 ?_
        refine td_goto (tgt := 143) dX10_push_115 (by decide) ?_
        exact K
  · have K := Kf q
    refine td_iload_n 1 dX10_push_43 rfl ?_
    refine td_aload_n 0 dX10_push_44 rfl ?_
    refine gf_X10_25 rfl kp_85 dX10_push_45 ?_
    refine td_iload_n 2 dX10_push_48 rfl ?_
    obtain ⟨e49, K⟩ := K
    refine td_ialdc (j := (ix x2)) kp_91 (by decide) e49 rfl dX10_push_49 ?_
    refine td_iconst (v := 2) dX10_push_50 (by decide) ?_
    obtain ⟨Kt, Kf⟩ := K
    refine td_icmp_ne (tgt := 66) dX10_push_51 (by decide) (fun q => ?_) (fun q => ?_)
    · have K := Kt q
      refine td_iconst (v := 0) dX10_push_66 (by decide) ?_
      exact K
    · have K := Kf q
      refine td_aload_n 0 dX10_push_54 rfl ?_
      refine td_iload_n 2 dX10_push_55 rfl ?_
      refine td_iconst (v := 2) dX10_push_56 (by decide) ?_
      exact K
set_option maxRecDepth 20000 in
theorem rX10_push_63 {G : td_G} {d : Nat} {Post : td_P} {x1 x2 s0 s1 : Int32} {h : td_H} (K : td_J G d mX10_push Post 67 [(0, .ref 85), (1, .int x1), (2, .int x2)] [.int s1, .int s0] h) : td_J G d mX10_push Post 63 [(0, .ref 85), (1, .int x1), (2, .int x2)] [.int s1, .int s0] h := by
  refine td_goto (tgt := 67) dX10_push_63 (by decide) ?_
  exact K
set_option maxRecDepth 20000 in
theorem rX10_push_67 {G : td_G} {d : Nat} {Post : td_P} {x1 x2 s0 s1 : Int32} {h : td_H} (K : td_J G d mX10_push Post 32 [(0, .ref 85), (1, .int (s0 + s1)), (2, .int (x2 + 1))] [] h) : td_J G d mX10_push Post 67 [(0, .ref 85), (1, .int x1), (2, .int x2)] [.int s1, .int s0] h := by
  refine td_iadd dX10_push_67 ?_
  refine td_istore_n (lv2 := [(0, .ref 85), (1, .int (s0 + s1)), (2, .int x2)]) dX10_push_68 (by decide) rfl ?_
  refine td_iinc 2 (v := x2 + 1) (lv2 := [(0, .ref 85), (1, .int (s0 + s1)), (2, .int (x2 + 1))]) dX10_push_69 rfl (congrArg (x2 + ·) (by decide)) (by decide) rfl ?_
  refine td_goto (tgt := 32) dX10_push_72 (by decide) ?_
  exact K
set_option maxRecDepth 20000 in
theorem rX10_push_118 {G : td_G} {d : Nat} {Post : td_P} {x1 x2 : Int32} {h : td_H} (K : (((h 87 4) * (h 85 18)) ≤ x1 → td_J G d mX10_push Post 143 [(0, .ref 85), (1, .int x1), (2, .int x2)] [] h) ∧ (¬ ((h 87 4) * (h 85 18)) ≤ x1 → td_J G d mX10_push Post 143 [(0, .ref 85), (1, .int x1), (2, .int x2)] [] (hu h 85 18 ((h 85 18) - 1)))) : td_J G d mX10_push Post 118 [(0, .ref 85), (1, .int x1), (2, .int x2)] [] h := by
  refine td_iload_n 1 dX10_push_118 rfl ?_
  refine td_aload_n 0 dX10_push_119 rfl ?_
  refine gf_X10_13 rfl kp_85 dX10_push_120 ?_
  refine td_iconst (v := 4) dX10_push_123 (by decide) ?_
  refine td_ialdc (j := 4) kp_87 (by decide) (by unfold vp_in; decide) (by decide) dX10_push_124 ?_
  refine td_aload_n 0 dX10_push_125 rfl ?_
  refine gf_X10_173 rfl kp_85 dX10_push_126 ?_
  refine td_imul dX10_push_129 ?_
  obtain ⟨Kt, Kf⟩ := K
  refine td_icmp_ge (tgt := 143) dX10_push_130 (by decide) (fun q => ?_) (fun q => ?_)
  · have K := Kt q
    exact K
  · have K := Kf q
    refine td_aload_n 0 dX10_push_133 rfl ?_
    refine td_dup dX10_push_134 rfl ?_
    refine gf_X10_173 rfl kp_85 dX10_push_135 ?_
    refine td_iconst (v := 1) dX10_push_138 (by decide) ?_
    refine td_isub dX10_push_139 ?_
    refine pf_X10_173 rfl kp_85 dX10_push_140 ?_
    exact K
set_option maxRecDepth 20000 in
theorem rX10_push_143 {G : td_G} {d : Nat} {Post : td_P} {x1 x2 : Int32} {h : td_H} (K : Post none h) : td_J G d mX10_push Post 143 [(0, .ref 85), (1, .int x1), (2, .int x2)] [] h := by
  exact td_return rfl dX10_push_143 K
set_option maxRecDepth 20000 in
theorem rX10_step_0 {G : td_G} {d : Nat} {Post : td_P} {x1 : Int32} {h : td_H} (K : td_J G d mX10_step Post 30 [(0, .ref 85), (1, .int x1), (2, .int (h 85 17)), (3, .int 0)] [] (hu (hu h 85 17 (jrem ((h 85 17) + 1) 12)) 85 21 (((hu h 85 17 (jrem ((h 85 17) + 1) 12)) 85 21) + 1))) : td_J G d mX10_step Post 0 [(0, .ref 85), (1, .int x1)] [] h := by
  refine td_aload_n 0 dX10_step_0 rfl ?_
  refine gf_X10_176 rfl kp_85 dX10_step_1 ?_
  refine td_istore_n (lv2 := [(0, .ref 85), (1, .int x1), (2, .int (h 85 17))]) dX10_step_4 (by decide) rfl ?_
  refine td_aload_n 0 dX10_step_5 rfl ?_
  refine td_aload_n 0 dX10_step_6 rfl ?_
  refine gf_X10_176 rfl kp_85 dX10_step_7 ?_
  refine td_iconst (v := 1) dX10_step_10 (by decide) ?_
  refine td_iadd dX10_step_11 ?_
  refine td_bipush (v := 12) dX10_step_12 (by decide) ?_
  refine td_irem dX10_step_14 (by decide) ?_
  refine pf_X10_176 rfl kp_85 dX10_step_15 ?_
  refine td_aload_n 0 dX10_step_18 rfl ?_
  refine td_dup dX10_step_19 rfl ?_
  refine gf_X10_179 rfl kp_85 dX10_step_20 ?_
  refine td_iconst (v := 1) dX10_step_23 (by decide) ?_
  refine td_iadd dX10_step_24 ?_
  refine pf_X10_179 rfl kp_85 dX10_step_25 ?_
  refine td_iconst (v := 0) dX10_step_28 (by decide) ?_
  refine td_istore_n (lv2 := [(0, .ref 85), (1, .int x1), (2, .int (h 85 17)), (3, .int 0)]) dX10_step_29 (by decide) rfl ?_
  exact K
set_option maxRecDepth 20000 in
theorem rX10_step_30 {G : td_G} {d : Nat} {Post : td_P} {x1 x2 x3 : Int32} {h : td_H} (K : ((h 86 9) ≤ x3 → td_J G d mX10_step Post 175 [(0, .ref 85), (1, .int x1), (2, .int x2), (3, .int 0)] [] h) ∧ (¬ (h 86 9) ≤ x3 → (vp_in x3 12 ∧ ((¬ (h 91 (ix x3)) = 2 → td_J G d mX10_step Post 167 [(0, .ref 85), (1, .int x1), (2, .int x2), (3, .int x3)] [] h) ∧ ((h 91 (ix x3)) = 2 → (vp_in x3 12 ∧ (td_J G d mX10_step Post 62 [(0, .ref 85), (1, .int x1), (2, .int x2), (3, .int x3)] [.int 1, .int x3, .ref 85, .int 1, .int (h 92 (ix x3)), .ref 85] h))))))) : td_J G d mX10_step Post 30 [(0, .ref 85), (1, .int x1), (2, .int x2), (3, .int x3)] [] h := by
  refine td_iload_n 3 dX10_step_30 rfl ?_
  refine td_aload_n 0 dX10_step_31 rfl ?_
  refine gf_X10_7 rfl kp_85 dX10_step_32 ?_
  refine td_bipush (v := 9) dX10_step_35 (by decide) ?_
  refine td_ialdc (j := 9) kp_86 (by decide) (by unfold vp_in; decide) (by decide) dX10_step_37 ?_
  obtain ⟨Kt, Kf⟩ := K
  refine td_icmp_ge (tgt := 173) dX10_step_38 (by decide) (fun q => ?_) (fun q => ?_)
  · have K := Kt q
    refine td_iconst (v := 0) dX10_step_173 (by decide) ?_
    refine td_istore_n (lv2 := [(0, .ref 85), (1, .int x1), (2, .int x2), (3, .int 0)]) dX10_step_174 (by decide) rfl ?_
    exact K
  · have K := Kf q
    refine td_aload_n 0 dX10_step_41 rfl ?_
    refine gf_X10_25 rfl kp_85 dX10_step_42 ?_
    refine td_iload_n 3 dX10_step_45 rfl ?_
    obtain ⟨e46, K⟩ := K
    refine td_ialdc (j := (ix x3)) kp_91 (by decide) e46 rfl dX10_step_46 ?_
    refine td_iconst (v := 2) dX10_step_47 (by decide) ?_
    obtain ⟨Kt, Kf⟩ := K
    refine td_icmp_ne (tgt := 167) dX10_step_48 (by decide) (fun q => ?_) (fun q => ?_)
    · have K := Kt q
      exact K
    · have K := Kf q
      refine td_aload_n 0 dX10_step_51 rfl ?_
      refine td_aload_n 0 dX10_step_52 rfl ?_
      refine gf_X10_28 rfl kp_85 dX10_step_53 ?_
      refine td_iload_n 3 dX10_step_56 rfl ?_
      obtain ⟨e57, K⟩ := K
      refine td_ialdc (j := (ix x3)) kp_92 (by decide) e57 rfl dX10_step_57 ?_
      refine td_iconst (v := 1) dX10_step_58 (by decide) ?_
      refine td_aload_n 0 dX10_step_59 rfl ?_
      refine td_iload_n 3 dX10_step_60 rfl ?_
      refine td_iconst (v := 1) dX10_step_61 (by decide) ?_
      exact K
set_option maxRecDepth 20000 in
theorem rX10_step_65 {G : td_G} {d : Nat} {Post : td_P} {a0 : Nat} {x1 x2 x3 s1 s2 s3 : Int32} {h : td_H} (ha0 : td_kd a0 = 10) (K : td_J G d mX10_step Post 70 [(0, .ref 85), (1, .int x1), (2, .int x2), (3, .int x3)] [.int (h 85 17), .int (s2 - s3), .int s1, .ref a0] h) : td_J G d mX10_step Post 65 [(0, .ref 85), (1, .int x1), (2, .int x2), (3, .int x3)] [.int s3, .int s2, .int s1, .ref a0] h := by
  refine td_isub dX10_step_65 ?_
  refine td_aload_n 0 dX10_step_66 rfl ?_
  refine gf_X10_176 rfl kp_85 dX10_step_67 ?_
  exact K
set_option maxRecDepth 20000 in
theorem rX10_step_73 {G : td_G} {d : Nat} {Post : td_P} {x1 x2 x3 s0 : Int32} {h : td_H} (K : td_J G d mX10_step Post 78 [(0, .ref 85), (1, .int x1), (2, .int x2), (3, .int x3), (4, .int s0)] [.int 2, .int x3, .ref 85] h) : td_J G d mX10_step Post 73 [(0, .ref 85), (1, .int x1), (2, .int x2), (3, .int x3)] [.int s0] h := by
  refine td_istore (lv2 := [(0, .ref 85), (1, .int x1), (2, .int x2), (3, .int x3), (4, .int s0)]) dX10_step_73 (by decide) rfl ?_
  refine td_aload_n 0 dX10_step_75 rfl ?_
  refine td_iload_n 3 dX10_step_76 rfl ?_
  refine td_iconst (v := 2) dX10_step_77 (by decide) ?_
  exact K
set_option maxRecDepth 20000 in
theorem rX10_step_81 {G : td_G} {d : Nat} {Post : td_P} {x1 x2 x3 x4 s0 : Int32} {h : td_H} (K : (¬ s0 = 5 → td_J G d mX10_step Post 99 [(0, .ref 85), (1, .int x1), (2, .int x2), (3, .int x3), (4, .int x4)] [] h) ∧ (s0 = 5 → (vp_in x3 12 ∧ ((2 ≤ (h 97 (ix x3)) → td_J G d mX10_step Post 99 [(0, .ref 85), (1, .int x1), (2, .int x2), (3, .int x3), (4, .int x4)] [] h) ∧ (¬ 2 ≤ (h 97 (ix x3)) → td_J G d mX10_step Post 100 [(0, .ref 85), (1, .int x1), (2, .int x2), (3, .int x3), (4, .int x4)] [.int 1] h))))) : td_J G d mX10_step Post 81 [(0, .ref 85), (1, .int x1), (2, .int x2), (3, .int x3), (4, .int x4)] [.int s0] h := by
  refine td_iconst (v := 5) dX10_step_81 (by decide) ?_
  obtain ⟨Kt, Kf⟩ := K
  refine td_icmp_ne (tgt := 99) dX10_step_82 (by decide) (fun q => ?_) (fun q => ?_)
  · have K := Kt q
    exact K
  · have K := Kf q
    refine td_aload_n 0 dX10_step_85 rfl ?_
    refine gf_X10_43 rfl kp_85 dX10_step_86 ?_
    refine td_iload_n 3 dX10_step_89 rfl ?_
    obtain ⟨e90, K⟩ := K
    refine td_ialdc (j := (ix x3)) kp_97 (by decide) e90 rfl dX10_step_90 ?_
    refine td_iconst (v := 2) dX10_step_91 (by decide) ?_
    obtain ⟨Kt, Kf⟩ := K
    refine td_icmp_ge (tgt := 99) dX10_step_92 (by decide) (fun q => ?_) (fun q => ?_)
    · have K := Kt q
      exact K
    · have K := Kf q
      refine td_iconst (v := 1) dX10_step_95 (by decide) ?_
      refine td_goto (tgt := 100) dX10_step_96 (by decide) ?_
      exact K
set_option maxRecDepth 20000 in
theorem rX10_step_99 {G : td_G} {d : Nat} {Post : td_P} {x1 x2 x3 x4 : Int32} {h : td_H} (K : td_J G d mX10_step Post 100 [(0, .ref 85), (1, .int x1), (2, .int x2), (3, .int x3), (4, .int x4)] [.int 0] h) : td_J G d mX10_step Post 99 [(0, .ref 85), (1, .int x1), (2, .int x2), (3, .int x3), (4, .int x4)] [] h := by
  refine td_iconst (v := 0) dX10_step_99 (by decide) ?_
  exact K
set_option maxRecDepth 20000 in
theorem rX10_step_100 {G : td_G} {d : Nat} {Post : td_P} {x1 x2 x3 x4 s0 : Int32} {h : td_H} (K : (x4 = 0 → td_J G d mX10_step Post 118 [(0, .ref 85), (1, .int x1), (2, .int x2), (3, .int x3), (4, .int x4), (5, .int s0)] [] h) ∧ (¬ x4 = 0 → ((¬ s0 = 0 → td_J G d mX10_step Post 118 [(0, .ref 85), (1, .int x1), (2, .int x2), (3, .int x3), (4, .int x4), (5, .int s0)] [] h) ∧ (s0 = 0 → td_J G d mX10_step Post 115 [(0, .ref 85), (1, .int x1), (2, .int x2), (3, .int x3), (4, .int x4), (5, .int s0)] [.int x1, .int x3, .ref 85] h)))) : td_J G d mX10_step Post 100 [(0, .ref 85), (1, .int x1), (2, .int x2), (3, .int x3), (4, .int x4)] [.int s0] h := by
  refine td_istore (lv2 := [(0, .ref 85), (1, .int x1), (2, .int x2), (3, .int x3), (4, .int x4), (5, .int s0)]) dX10_step_100 (by decide) rfl ?_
  refine td_iload 4 dX10_step_102 rfl ?_
  obtain ⟨Kt, Kf⟩ := K
  refine td_if_eq (tgt := 118) dX10_step_104 (by decide) (fun q => ?_) (fun q => ?_)
  · have K := Kt q
    exact K
  · have K := Kf q
    refine td_iload 5 dX10_step_107 rfl ?_
    obtain ⟨Kt, Kf⟩ := K
    refine td_if_ne (tgt := 118) dX10_step_109 (by decide) (fun q => ?_) (fun q => ?_)
    · have K := Kt q
      exact K
    · have K := Kf q
      refine td_aload_n 0 dX10_step_112 rfl ?_
      refine td_iload_n 3 dX10_step_113 rfl ?_
      refine td_iload_n 1 dX10_step_114 rfl ?_
      exact K
set_option maxRecDepth 20000 in
theorem rX10_step_118 {G : td_G} {d : Nat} {Post : td_P} {x1 x2 x3 x4 x5 : Int32} {h : td_H} (K : (x4 = 0 → td_J G d mX10_step Post 141 [(0, .ref 85), (1, .int x1), (2, .int x2), (3, .int x3), (4, .int x4), (5, .int x5)] [.int x3, .ref 97] h) ∧ (¬ x4 = 0 → (vp_in x3 12 ∧ ((¬ (h 97 (ix x3)) = 0 → td_J G d mX10_step Post 141 [(0, .ref 85), (1, .int x1), (2, .int x2), (3, .int x3), (4, .int x4), (5, .int x5)] [.int x3, .ref 97] h) ∧ ((h 97 (ix x3)) = 0 → td_J G d mX10_step Post 166 [(0, .ref 85), (1, .int x1), (2, .int x2), (3, .int x3), (4, .int x4), (5, .int x5)] [.int 1, .int x3, .ref 97] h))))) : td_J G d mX10_step Post 118 [(0, .ref 85), (1, .int x1), (2, .int x2), (3, .int x3), (4, .int x4), (5, .int x5)] [] h := by
  refine td_aload_n 0 dX10_step_118 rfl ?_
  refine gf_X10_43 rfl kp_85 dX10_step_119 ?_
  refine td_iload_n 3 dX10_step_122 rfl ?_
  refine td_iload 4 dX10_step_123 rfl ?_
  obtain ⟨Kt, Kf⟩ := K
  refine td_if_eq (tgt := 141) dX10_step_125 (by decide) (fun q => ?_) (fun q => ?_)
  · have K := Kt q
    exact K
  · have K := Kf q
    refine td_aload_n 0 dX10_step_128 rfl ?_
    refine gf_X10_43 rfl kp_85 dX10_step_129 ?_
    refine td_iload_n 3 dX10_step_132 rfl ?_
    obtain ⟨e133, K⟩ := K
    refine td_ialdc (j := (ix x3)) kp_97 (by decide) e133 rfl dX10_step_133 ?_
    obtain ⟨Kt, Kf⟩ := K
    refine td_if_ne (tgt := 141) dX10_step_134 (by decide) (fun q => ?_) (fun q => ?_)
    · have K := Kt q
      exact K
    · have K := Kf q
      refine td_iconst (v := 1) dX10_step_137 (by decide) ?_
      refine td_goto (tgt := 166) dX10_step_138 (by decide) ?_
      exact K
set_option maxRecDepth 20000 in
theorem rX10_step_141 {G : td_G} {d : Nat} {Post : td_P} {a0 na0 : Nat} {x1 x2 x3 x4 x5 s1 : Int32} {h : td_H} (ha0 : td_kd a0 = 100 + na0) (ga0 : na0 ≠ 899) (K : (¬ x4 = 0 → td_J G d mX10_step Post 160 [(0, .ref 85), (1, .int x1), (2, .int x2), (3, .int x3), (4, .int x4), (5, .int x5)] [.int s1, .ref a0] h) ∧ (x4 = 0 → (vp_in x3 12 ∧ ((¬ (h 97 (ix x3)) = 1 → td_J G d mX10_step Post 160 [(0, .ref 85), (1, .int x1), (2, .int x2), (3, .int x3), (4, .int x4), (5, .int x5)] [.int s1, .ref a0] h) ∧ ((h 97 (ix x3)) = 1 → td_J G d mX10_step Post 166 [(0, .ref 85), (1, .int x1), (2, .int x2), (3, .int x3), (4, .int x4), (5, .int x5)] [.int 2, .int s1, .ref a0] h))))) : td_J G d mX10_step Post 141 [(0, .ref 85), (1, .int x1), (2, .int x2), (3, .int x3), (4, .int x4), (5, .int x5)] [.int s1, .ref a0] h := by
  refine td_iload 4 dX10_step_141 rfl ?_
  obtain ⟨Kt, Kf⟩ := K
  refine td_if_ne (tgt := 160) dX10_step_143 (by decide) (fun q => ?_) (fun q => ?_)
  · have K := Kt q
    exact K
  · have K := Kf q
    refine td_aload_n 0 dX10_step_146 rfl ?_
    refine gf_X10_43 rfl kp_85 dX10_step_147 ?_
    refine td_iload_n 3 dX10_step_150 rfl ?_
    obtain ⟨e151, K⟩ := K
    refine td_ialdc (j := (ix x3)) kp_97 (by decide) e151 rfl dX10_step_151 ?_
    refine td_iconst (v := 1) dX10_step_152 (by decide) ?_
    obtain ⟨Kt, Kf⟩ := K
    refine td_icmp_ne (tgt := 160) dX10_step_153 (by decide) (fun q => ?_) (fun q => ?_)
    · have K := Kt q
      exact K
    · have K := Kf q
      refine td_iconst (v := 2) dX10_step_156 (by decide) ?_
      refine td_goto (tgt := 166) dX10_step_157 (by decide) ?_
      exact K
set_option maxRecDepth 20000 in
theorem rX10_step_160 {G : td_G} {d : Nat} {Post : td_P} {a0 na0 : Nat} {x1 x2 x3 x4 x5 s1 : Int32} {h : td_H} (ha0 : td_kd a0 = 100 + na0) (ga0 : na0 ≠ 899) (K : vp_in x3 12 ∧ (td_J G d mX10_step Post 166 [(0, .ref 85), (1, .int x1), (2, .int x2), (3, .int x3), (4, .int x4), (5, .int x5)] [.int (h 97 (ix x3)), .int s1, .ref a0] h)) : td_J G d mX10_step Post 160 [(0, .ref 85), (1, .int x1), (2, .int x2), (3, .int x3), (4, .int x4), (5, .int x5)] [.int s1, .ref a0] h := by
  refine td_aload_n 0 dX10_step_160 rfl ?_
  refine gf_X10_43 rfl kp_85 dX10_step_161 ?_
  refine td_iload_n 3 dX10_step_164 rfl ?_
  obtain ⟨e165, K⟩ := K
  refine td_ialdc (j := (ix x3)) kp_97 (by decide) e165 rfl dX10_step_165 ?_
  exact K
set_option maxRecDepth 20000 in
theorem rX10_step_166 {G : td_G} {d : Nat} {Post : td_P} {a0 na0 : Nat} {x1 x2 x3 x4 x5 s1 s2 : Int32} {h : td_H} (ha0 : td_kd a0 = 100 + na0) (ga0 : na0 ≠ 899) (K : vp_in s1 na0 ∧ (td_J G d mX10_step Post 167 [(0, .ref 85), (1, .int x1), (2, .int x2), (3, .int x3)] [] (hu h a0 (ix s1) s2))) : td_J G d mX10_step Post 166 [(0, .ref 85), (1, .int x1), (2, .int x2), (3, .int x3), (4, .int x4), (5, .int x5)] [.int s2, .int s1, .ref a0] h := by
  obtain ⟨e166, K⟩ := K
  refine td_iastc (j := (ix s1)) ha0 ga0 e166 rfl dX10_step_166 ?_
  refine td_drop [0, 1, 2, 3] rfl ?_
  exact K
set_option maxRecDepth 20000 in
theorem rX10_step_167 {G : td_G} {d : Nat} {Post : td_P} {x1 x2 x3 : Int32} {h : td_H} (K : td_J G d mX10_step Post 30 [(0, .ref 85), (1, .int x1), (2, .int x2), (3, .int (x3 + 1))] [] h) : td_J G d mX10_step Post 167 [(0, .ref 85), (1, .int x1), (2, .int x2), (3, .int x3)] [] h := by
  refine td_iinc 3 (v := x3 + 1) (lv2 := [(0, .ref 85), (1, .int x1), (2, .int x2), (3, .int (x3 + 1))]) dX10_step_167 rfl (congrArg (x3 + ·) (by decide)) (by decide) rfl ?_
  refine td_goto (tgt := 30) dX10_step_170 (by decide) ?_
  exact K
set_option maxRecDepth 20000 in
theorem rX10_step_175 {G : td_G} {d : Nat} {Post : td_P} {x1 x2 x3 : Int32} {h : td_H} (K : ((h 87 0) ≤ x3 → (Post none h)) ∧ (¬ (h 87 0) ≤ x3 → td_J G d mX10_step Post 189 [(0, .ref 85), (1, .int x1), (2, .int x2), (3, .int x3)] [.int x2, .int 0, .int x3, .ref 85] h)) : td_J G d mX10_step Post 175 [(0, .ref 85), (1, .int x1), (2, .int x2), (3, .int x3)] [] h := by
  refine td_iload_n 3 dX10_step_175 rfl ?_
  refine td_aload_n 0 dX10_step_176 rfl ?_
  refine gf_X10_13 rfl kp_85 dX10_step_177 ?_
  refine td_iconst (v := 0) dX10_step_180 (by decide) ?_
  refine td_ialdc (j := 0) kp_87 (by decide) (by unfold vp_in; decide) (by decide) dX10_step_181 ?_
  obtain ⟨Kt, Kf⟩ := K
  refine td_icmp_ge (tgt := 248) dX10_step_182 (by decide) (fun q => ?_) (fun q => ?_)
  · have K := Kt q
    exact td_return rfl dX10_step_248 K
  · have K := Kf q
    refine td_aload_n 0 dX10_step_185 rfl ?_
    refine td_iload_n 3 dX10_step_186 rfl ?_
    refine td_iconst (v := 0) dX10_step_187 (by decide) ?_
    refine td_iload_n 2 dX10_step_188 rfl ?_
    exact K
set_option maxRecDepth 20000 in
theorem rX10_step_192 {G : td_G} {d : Nat} {Post : td_P} {x1 x2 x3 s0 : Int32} {h : td_H} (K : (s0 = 0 → td_J G d mX10_step Post 242 [(0, .ref 85), (1, .int x1), (2, .int x2), (3, .int x3)] [] h) ∧ (¬ s0 = 0 → td_J G d mX10_step Post 202 [(0, .ref 85), (1, .int x1), (2, .int x2), (3, .int x3)] [.int (h 85 17), .int 0, .int x3, .ref 85] h)) : td_J G d mX10_step Post 192 [(0, .ref 85), (1, .int x1), (2, .int x2), (3, .int x3)] [.int s0] h := by
  obtain ⟨Kt, Kf⟩ := K
  refine td_if_eq (tgt := 242) dX10_step_192 (by decide) (fun q => ?_) (fun q => ?_)
  · have K := Kt q
    exact K
  · have K := Kf q
    refine td_aload_n 0 dX10_step_195 rfl ?_
    refine td_iload_n 3 dX10_step_196 rfl ?_
    refine td_iconst (v := 0) dX10_step_197 (by decide) ?_
    refine td_aload_n 0 dX10_step_198 rfl ?_
    refine gf_X10_176 rfl kp_85 dX10_step_199 ?_
    exact K
set_option maxRecDepth 20000 in
theorem rX10_step_205 {G : td_G} {d : Nat} {Post : td_P} {x1 x2 x3 s0 : Int32} {h : td_H} (K : (¬ s0 = 0 → td_J G d mX10_step Post 242 [(0, .ref 85), (1, .int x1), (2, .int x2), (3, .int x3)] [] h) ∧ (s0 = 0 → td_J G d mX10_step Post 215 [(0, .ref 85), (1, .int x1), (2, .int x2), (3, .int x3)] [.int x3, .ref 85, .int (h 85 20), .ref 85] h)) : td_J G d mX10_step Post 205 [(0, .ref 85), (1, .int x1), (2, .int x2), (3, .int x3)] [.int s0] h := by
  obtain ⟨Kt, Kf⟩ := K
  refine td_if_ne (tgt := 242) dX10_step_205 (by decide) (fun q => ?_) (fun q => ?_)
  · have K := Kt q
    exact K
  · have K := Kf q
    refine td_aload_n 0 dX10_step_208 rfl ?_
    refine td_dup dX10_step_209 rfl ?_
    refine gf_X10_186 rfl kp_85 dX10_step_210 ?_
    refine td_aload_n 0 dX10_step_213 rfl ?_
    refine td_iload_n 3 dX10_step_214 rfl ?_
    exact K
set_option maxRecDepth 20000 in
theorem rX10_step_218 {G : td_G} {d : Nat} {Post : td_P} {a0 : Nat} {x1 x2 x3 s1 s2 : Int32} {h : td_H} (ha0 : td_kd a0 = 10) (K : (s2 ≤ 0 → td_J G d mX10_step Post 238 [(0, .ref 85), (1, .int x1), (2, .int x2), (3, .int x3)] [.int 0, .int s1, .ref a0] h) ∧ (¬ s2 ≤ 0 → td_J G d mX10_step Post 230 [(0, .ref 85), (1, .int x1), (2, .int x2), (3, .int x3)] [.int x3, .ref 85, .int (h 87 6), .int s1, .ref a0] h)) : td_J G d mX10_step Post 218 [(0, .ref 85), (1, .int x1), (2, .int x2), (3, .int x3)] [.int s2, .int s1, .ref a0] h := by
  obtain ⟨Kt, Kf⟩ := K
  refine td_if_le (tgt := 237) dX10_step_218 (by decide) (fun q => ?_) (fun q => ?_)
  · have K := Kt q
    refine td_iconst (v := 0) dX10_step_237 (by decide) ?_
    exact K
  · have K := Kf q
    refine td_aload_n 0 dX10_step_221 rfl ?_
    refine gf_X10_13 rfl kp_85 dX10_step_222 ?_
    refine td_bipush (v := 6) dX10_step_225 (by decide) ?_
    refine td_ialdc (j := 6) kp_87 (by decide) (by unfold vp_in; decide) (by decide) dX10_step_227 ?_
    refine td_aload_n 0 dX10_step_228 rfl ?_
    refine td_iload_n 3 dX10_step_229 rfl ?_
    exact K
set_option maxRecDepth 20000 in
theorem rX10_step_233 {G : td_G} {d : Nat} {Post : td_P} {a0 : Nat} {x1 x2 x3 s1 s2 s3 : Int32} {h : td_H} (ha0 : td_kd a0 = 10) (K : td_J G d mX10_step Post 238 [(0, .ref 85), (1, .int x1), (2, .int x2), (3, .int x3)] [.int (s2 * s3), .int s1, .ref a0] h) : td_J G d mX10_step Post 233 [(0, .ref 85), (1, .int x1), (2, .int x2), (3, .int x3)] [.int s3, .int s2, .int s1, .ref a0] h := by
  refine td_imul dX10_step_233 ?_
  refine td_goto (tgt := 238) dX10_step_234 (by decide) ?_
  exact K
set_option maxRecDepth 20000 in
theorem rX10_step_238 {G : td_G} {d : Nat} {Post : td_P} {a0 : Nat} {x1 x2 x3 s1 s2 : Int32} {h : td_H} (ha0 : td_kd a0 = 10) (K : td_J G d mX10_step Post 242 [(0, .ref 85), (1, .int x1), (2, .int x2), (3, .int x3)] [] (hu h a0 20 (s1 + s2))) : td_J G d mX10_step Post 238 [(0, .ref 85), (1, .int x1), (2, .int x2), (3, .int x3)] [.int s2, .int s1, .ref a0] h := by
  refine td_iadd dX10_step_238 ?_
  refine pf_X10_186 rfl ha0 dX10_step_239 ?_
  exact K
set_option maxRecDepth 20000 in
theorem rX10_step_242 {G : td_G} {d : Nat} {Post : td_P} {x1 x2 x3 : Int32} {h : td_H} (K : td_J G d mX10_step Post 175 [(0, .ref 85), (1, .int x1), (2, .int x2), (3, .int (x3 + 1))] [] h) : td_J G d mX10_step Post 242 [(0, .ref 85), (1, .int x1), (2, .int x2), (3, .int x3)] [] h := by
  refine td_iinc 3 (v := x3 + 1) (lv2 := [(0, .ref 85), (1, .int x1), (2, .int x2), (3, .int (x3 + 1))]) dX10_step_242 rfl (congrArg (x3 + ·) (by decide)) (by decide) rfl ?_
  refine td_goto (tgt := 175) dX10_step_245 (by decide) ?_
  exact K
set_option maxRecDepth 20000 in
theorem rX10_firstAt_0 {G : td_G} {d : Nat} {Post : td_P} {x1 : Int32} {h : td_H} (K : td_J G d mX10_firstAt Post 5 [(0, .ref 85), (1, .int x1), (2, .int (-4)), (3, .int 0)] [] h) : td_J G d mX10_firstAt Post 0 [(0, .ref 85), (1, .int x1)] [] h := by
  refine td_bipush (v := (-4)) dX10_firstAt_0 (by decide) ?_
  refine td_istore_n (lv2 := [(0, .ref 85), (1, .int x1), (2, .int (-4))]) dX10_firstAt_2 (by decide) rfl ?_
  refine td_iconst (v := 0) dX10_firstAt_3 (by decide) ?_
  refine td_istore_n (lv2 := [(0, .ref 85), (1, .int x1), (2, .int (-4)), (3, .int 0)]) dX10_firstAt_4 (by decide) rfl ?_
  exact K
set_option maxRecDepth 20000 in
theorem rX10_firstAt_5 {G : td_G} {d : Nat} {Post : td_P} {x1 x2 x3 : Int32} {h : td_H} (K : ((h 86 9) ≤ x3 → (Post (some (.int x2)) h)) ∧ (¬ (h 86 9) ≤ x3 → (vp_in x3 12 ∧ ((¬ (h 91 (ix x3)) = 1 → td_J G d mX10_firstAt Post 116 [(0, .ref 85), (1, .int x1), (2, .int x2), (3, .int x3)] [] h) ∧ ((h 91 (ix x3)) = 1 → td_J G d mX10_firstAt Post 29 [(0, .ref 85), (1, .int x1), (2, .int x2), (3, .int x3)] [.int 1, .int x3, .ref 85] h))))) : td_J G d mX10_firstAt Post 5 [(0, .ref 85), (1, .int x1), (2, .int x2), (3, .int x3)] [] h := by
  refine td_iload_n 3 dX10_firstAt_5 rfl ?_
  refine td_aload_n 0 dX10_firstAt_6 rfl ?_
  refine gf_X10_7 rfl kp_85 dX10_firstAt_7 ?_
  refine td_bipush (v := 9) dX10_firstAt_10 (by decide) ?_
  refine td_ialdc (j := 9) kp_86 (by decide) (by unfold vp_in; decide) (by decide) dX10_firstAt_12 ?_
  obtain ⟨Kt, Kf⟩ := K
  refine td_icmp_ge (tgt := 122) dX10_firstAt_13 (by decide) (fun q => ?_) (fun q => ?_)
  · have K := Kt q
    refine td_iload_n 2 dX10_firstAt_122 rfl ?_
    exact td_ireturn rfl dX10_firstAt_123 K
  · have K := Kf q
    refine td_aload_n 0 dX10_firstAt_16 rfl ?_
    refine gf_X10_25 rfl kp_85 dX10_firstAt_17 ?_
    refine td_iload_n 3 dX10_firstAt_20 rfl ?_
    obtain ⟨e21, K⟩ := K
    refine td_ialdc (j := (ix x3)) kp_91 (by decide) e21 rfl dX10_firstAt_21 ?_
    refine td_iconst (v := 1) dX10_firstAt_22 (by decide) ?_
    obtain ⟨Kt, Kf⟩ := K
    refine td_icmp_ne (tgt := 116) dX10_firstAt_23 (by decide) (fun q => ?_) (fun q => ?_)
    · have K := Kt q
      exact K
    · have K := Kf q
      refine td_aload_n 0 dX10_firstAt_26 rfl ?_
      refine td_iload_n 3 dX10_firstAt_27 rfl ?_
      refine td_iconst (v := 1) dX10_firstAt_28 (by decide) ?_
      exact K
set_option maxRecDepth 20000 in
theorem rX10_firstAt_32 {G : td_G} {d : Nat} {Post : td_P} {x1 x2 x3 s0 : Int32} {h : td_H} (K : (¬ s0 = x1 → td_J G d mX10_firstAt Post 116 [(0, .ref 85), (1, .int x1), (2, .int x2), (3, .int x3)] [] h) ∧ (s0 = x1 → td_J G d mX10_firstAt Post 39 [(0, .ref 85), (1, .int x1), (2, .int x2), (3, .int x3)] [.int 2, .int x3, .ref 85] h)) : td_J G d mX10_firstAt Post 32 [(0, .ref 85), (1, .int x1), (2, .int x2), (3, .int x3)] [.int s0] h := by
  refine td_iload_n 1 dX10_firstAt_32 rfl ?_
  obtain ⟨Kt, Kf⟩ := K
  refine td_icmp_ne (tgt := 116) dX10_firstAt_33 (by decide) (fun q => ?_) (fun q => ?_)
  · have K := Kt q
    exact K
  · have K := Kf q
    refine td_aload_n 0 dX10_firstAt_36 rfl ?_
    refine td_iload_n 3 dX10_firstAt_37 rfl ?_
    refine td_iconst (v := 2) dX10_firstAt_38 (by decide) ?_
    exact K
set_option maxRecDepth 20000 in
theorem rX10_firstAt_42 {G : td_G} {d : Nat} {Post : td_P} {x1 x2 x3 s0 : Int32} {h : td_H} (K : (¬ s0 = 4 → td_J G d mX10_firstAt Post 51 [(0, .ref 85), (1, .int x1), (2, .int x2), (3, .int x3)] [.int 0] h) ∧ (s0 = 4 → td_J G d mX10_firstAt Post 51 [(0, .ref 85), (1, .int x1), (2, .int x2), (3, .int x3)] [.int 1] h)) : td_J G d mX10_firstAt Post 42 [(0, .ref 85), (1, .int x1), (2, .int x2), (3, .int x3)] [.int s0] h := by
  refine td_iconst (v := 4) dX10_firstAt_42 (by decide) ?_
  obtain ⟨Kt, Kf⟩ := K
  refine td_icmp_ne (tgt := 50) dX10_firstAt_43 (by decide) (fun q => ?_) (fun q => ?_)
  · have K := Kt q
    refine td_iconst (v := 0) dX10_firstAt_50 (by decide) ?_
    exact K
  · have K := Kf q
    refine td_iconst (v := 1) dX10_firstAt_46 (by decide) ?_
    refine td_goto (tgt := 51) dX10_firstAt_47 (by decide) ?_
    exact K
set_option maxRecDepth 20000 in
theorem rX10_firstAt_51 {G : td_G} {d : Nat} {Post : td_P} {x1 x2 x3 s0 : Int32} {h : td_H} (K : (x2 < 0 → td_J G d mX10_firstAt Post 71 [(0, .ref 85), (1, .int x1), (2, .int x2), (3, .int x3), (4, .int s0)] [] h) ∧ (¬ x2 < 0 → td_J G d mX10_firstAt Post 60 [(0, .ref 85), (1, .int x1), (2, .int x2), (3, .int x3), (4, .int s0)] [.int 2, .int x2, .ref 85] h)) : td_J G d mX10_firstAt Post 51 [(0, .ref 85), (1, .int x1), (2, .int x2), (3, .int x3)] [.int s0] h := by
  refine td_istore (lv2 := [(0, .ref 85), (1, .int x1), (2, .int x2), (3, .int x3), (4, .int s0)]) dX10_firstAt_51 (by decide) rfl ?_
  refine td_iload_n 2 dX10_firstAt_53 rfl ?_
  obtain ⟨Kt, Kf⟩ := K
  refine td_if_lt (tgt := 71) dX10_firstAt_54 (by decide) (fun q => ?_) (fun q => ?_)
  · have K := Kt q
    exact K
  · have K := Kf q
    refine td_aload_n 0 dX10_firstAt_57 rfl ?_
    refine td_iload_n 2 dX10_firstAt_58 rfl ?_
    refine td_iconst (v := 2) dX10_firstAt_59 (by decide) ?_
    exact K
set_option maxRecDepth 20000 in
theorem rX10_firstAt_63 {G : td_G} {d : Nat} {Post : td_P} {x1 x2 x3 x4 s0 : Int32} {h : td_H} (K : (¬ s0 = 4 → td_J G d mX10_firstAt Post 71 [(0, .ref 85), (1, .int x1), (2, .int x2), (3, .int x3), (4, .int x4)] [] h) ∧ (s0 = 4 → td_J G d mX10_firstAt Post 72 [(0, .ref 85), (1, .int x1), (2, .int x2), (3, .int x3), (4, .int x4)] [.int 1] h)) : td_J G d mX10_firstAt Post 63 [(0, .ref 85), (1, .int x1), (2, .int x2), (3, .int x3), (4, .int x4)] [.int s0] h := by
  refine td_iconst (v := 4) dX10_firstAt_63 (by decide) ?_
  obtain ⟨Kt, Kf⟩ := K
  refine td_icmp_ne (tgt := 71) dX10_firstAt_64 (by decide) (fun q => ?_) (fun q => ?_)
  · have K := Kt q
    exact K
  · have K := Kf q
    refine td_iconst (v := 1) dX10_firstAt_67 (by decide) ?_
    refine td_goto (tgt := 72) dX10_firstAt_68 (by decide) ?_
    exact K
set_option maxRecDepth 20000 in
theorem rX10_firstAt_71 {G : td_G} {d : Nat} {Post : td_P} {x1 x2 x3 x4 : Int32} {h : td_H} (K : td_J G d mX10_firstAt Post 72 [(0, .ref 85), (1, .int x1), (2, .int x2), (3, .int x3), (4, .int x4)] [.int 0] h) : td_J G d mX10_firstAt Post 71 [(0, .ref 85), (1, .int x1), (2, .int x2), (3, .int x3), (4, .int x4)] [] h := by
  refine td_iconst (v := 0) dX10_firstAt_71 (by decide) ?_
  exact K
set_option maxRecDepth 20000 in
theorem rX10_firstAt_72 {G : td_G} {d : Nat} {Post : td_P} {x1 x2 x3 x4 s0 : Int32} {h : td_H} (K : (x2 < 0 → td_J G d mX10_firstAt Post 110 [(0, .ref 85), (1, .int x1), (2, .int x2), (3, .int x3), (4, .int x4), (5, .int s0)] [] h) ∧ (¬ x2 < 0 → ((x4 = 0 → td_J G d mX10_firstAt Post 88 [(0, .ref 85), (1, .int x1), (2, .int x2), (3, .int x3), (4, .int x4), (5, .int s0)] [] h) ∧ (¬ x4 = 0 → ((s0 = 0 → td_J G d mX10_firstAt Post 110 [(0, .ref 85), (1, .int x1), (2, .int x2), (3, .int x3), (4, .int x4), (5, .int s0)] [] h) ∧ (¬ s0 = 0 → td_J G d mX10_firstAt Post 88 [(0, .ref 85), (1, .int x1), (2, .int x2), (3, .int x3), (4, .int x4), (5, .int s0)] [] h)))))) : td_J G d mX10_firstAt Post 72 [(0, .ref 85), (1, .int x1), (2, .int x2), (3, .int x3), (4, .int x4)] [.int s0] h := by
  refine td_istore (lv2 := [(0, .ref 85), (1, .int x1), (2, .int x2), (3, .int x3), (4, .int x4), (5, .int s0)]) dX10_firstAt_72 (by decide) rfl ?_
  refine td_iload_n 2 dX10_firstAt_74 rfl ?_
  obtain ⟨Kt, Kf⟩ := K
  refine td_if_lt (tgt := 110) dX10_firstAt_75 (by decide) (fun q => ?_) (fun q => ?_)
  · have K := Kt q
    exact K
  · have K := Kf q
    refine td_iload 4 dX10_firstAt_78 rfl ?_
    obtain ⟨Kt, Kf⟩ := K
    refine td_if_eq (tgt := 88) dX10_firstAt_80 (by decide) (fun q => ?_) (fun q => ?_)
    · have K := Kt q
      exact K
    · have K := Kf q
      refine td_iload 5 dX10_firstAt_83 rfl ?_
      obtain ⟨Kt, Kf⟩ := K
      refine td_if_eq (tgt := 110) dX10_firstAt_85 (by decide) (fun q => ?_) (fun q => ?_)
      · have K := Kt q
        exact K
      · have K := Kf q
        exact K
set_option maxRecDepth 20000 in
theorem rX10_firstAt_88 {G : td_G} {d : Nat} {Post : td_P} {x1 x2 x3 x4 x5 : Int32} {h : td_H} (K : (¬ x4 = x5 → td_J G d mX10_firstAt Post 114 [(0, .ref 85), (1, .int x1), (2, .int x2), (3, .int x3), (4, .int x4), (5, .int x5)] [] h) ∧ (x4 = x5 → (vp_in x3 12 ∧ (vp_in x2 12 ∧ (((h 88 (ix x2)) ≤ (h 88 (ix x3)) → td_J G d mX10_firstAt Post 114 [(0, .ref 85), (1, .int x1), (2, .int x2), (3, .int x3), (4, .int x4), (5, .int x5)] [] h) ∧ (¬ (h 88 (ix x2)) ≤ (h 88 (ix x3)) → td_J G d mX10_firstAt Post 110 [(0, .ref 85), (1, .int x1), (2, .int x2), (3, .int x3), (4, .int x4), (5, .int x5)] [] h)))))) : td_J G d mX10_firstAt Post 88 [(0, .ref 85), (1, .int x1), (2, .int x2), (3, .int x3), (4, .int x4), (5, .int x5)] [] h := by
  refine td_iload 4 dX10_firstAt_88 rfl ?_
  refine td_iload 5 dX10_firstAt_90 rfl ?_
  obtain ⟨Kt, Kf⟩ := K
  refine td_icmp_ne (tgt := 114) dX10_firstAt_92 (by decide) (fun q => ?_) (fun q => ?_)
  · have K := Kt q
    exact K
  · have K := Kf q
    refine td_aload_n 0 dX10_firstAt_95 rfl ?_
    refine gf_X10_16 rfl kp_85 dX10_firstAt_96 ?_
    refine td_iload_n 3 dX10_firstAt_99 rfl ?_
    obtain ⟨e100, K⟩ := K
    refine td_ialdc (j := (ix x3)) kp_88 (by decide) e100 rfl dX10_firstAt_100 ?_
    refine td_aload_n 0 dX10_firstAt_101 rfl ?_
    refine gf_X10_16 rfl kp_85 dX10_firstAt_102 ?_
    refine td_iload_n 2 dX10_firstAt_105 rfl ?_
    obtain ⟨e106, K⟩ := K
    refine td_ialdc (j := (ix x2)) kp_88 (by decide) e106 rfl dX10_firstAt_106 ?_
    obtain ⟨Kt, Kf⟩ := K
    refine td_icmp_ge (tgt := 114) dX10_firstAt_107 (by decide) (fun q => ?_) (fun q => ?_)
    · have K := Kt q
      exact K
    · have K := Kf q
      exact K
set_option maxRecDepth 20000 in
theorem rX10_firstAt_110 {G : td_G} {d : Nat} {Post : td_P} {x1 x2 x3 x4 x5 : Int32} {h : td_H} (K : td_J G d mX10_firstAt Post 115 [(0, .ref 85), (1, .int x1), (2, .int x2), (3, .int x3), (4, .int x4), (5, .int x5)] [.int x3] h) : td_J G d mX10_firstAt Post 110 [(0, .ref 85), (1, .int x1), (2, .int x2), (3, .int x3), (4, .int x4), (5, .int x5)] [] h := by
  refine td_iload_n 3 dX10_firstAt_110 rfl ?_
  refine td_goto (tgt := 115) dX10_firstAt_111 (by decide) ?_
  exact K
set_option maxRecDepth 20000 in
theorem rX10_firstAt_114 {G : td_G} {d : Nat} {Post : td_P} {x1 x2 x3 x4 x5 : Int32} {h : td_H} (K : td_J G d mX10_firstAt Post 115 [(0, .ref 85), (1, .int x1), (2, .int x2), (3, .int x3), (4, .int x4), (5, .int x5)] [.int x2] h) : td_J G d mX10_firstAt Post 114 [(0, .ref 85), (1, .int x1), (2, .int x2), (3, .int x3), (4, .int x4), (5, .int x5)] [] h := by
  refine td_iload_n 2 dX10_firstAt_114 rfl ?_
  exact K
set_option maxRecDepth 20000 in
theorem rX10_firstAt_115 {G : td_G} {d : Nat} {Post : td_P} {x1 x2 x3 x4 x5 s0 : Int32} {h : td_H} (K : td_J G d mX10_firstAt Post 116 [(0, .ref 85), (1, .int x1), (2, .int s0), (3, .int x3)] [] h) : td_J G d mX10_firstAt Post 115 [(0, .ref 85), (1, .int x1), (2, .int x2), (3, .int x3), (4, .int x4), (5, .int x5)] [.int s0] h := by
  refine td_istore_n (lv2 := [(0, .ref 85), (1, .int x1), (2, .int s0), (3, .int x3), (4, .int x4), (5, .int x5)]) dX10_firstAt_115 (by decide) rfl ?_
  refine td_drop [0, 1, 2, 3] rfl ?_
  exact K
set_option maxRecDepth 20000 in
theorem rX10_firstAt_116 {G : td_G} {d : Nat} {Post : td_P} {x1 x2 x3 : Int32} {h : td_H} (K : td_J G d mX10_firstAt Post 5 [(0, .ref 85), (1, .int x1), (2, .int x2), (3, .int (x3 + 1))] [] h) : td_J G d mX10_firstAt Post 116 [(0, .ref 85), (1, .int x1), (2, .int x2), (3, .int x3)] [] h := by
  refine td_iinc 3 (v := x3 + 1) (lv2 := [(0, .ref 85), (1, .int x1), (2, .int x2), (3, .int (x3 + 1))]) dX10_firstAt_116 rfl (congrArg (x3 + ·) (by decide)) (by decide) rfl ?_
  refine td_goto (tgt := 5) dX10_firstAt_119 (by decide) ?_
  exact K
set_option maxRecDepth 20000 in
theorem rX10_hasGrown_0 {G : td_G} {d : Nat} {Post : td_P} {x1 : Int32} {h : td_H} (K : td_J G d mX10_hasGrown Post 4 [(0, .ref 85), (1, .int x1), (2, .int 0), (3, .int 0)] [] h) : td_J G d mX10_hasGrown Post 0 [(0, .ref 85), (1, .int x1)] [] h := by
  refine td_iconst (v := 0) dX10_hasGrown_0 (by decide) ?_
  refine td_istore_n (lv2 := [(0, .ref 85), (1, .int x1), (2, .int 0)]) dX10_hasGrown_1 (by decide) rfl ?_
  refine td_iconst (v := 0) dX10_hasGrown_2 (by decide) ?_
  refine td_istore_n (lv2 := [(0, .ref 85), (1, .int x1), (2, .int 0), (3, .int 0)]) dX10_hasGrown_3 (by decide) rfl ?_
  exact K
set_option maxRecDepth 20000 in
theorem rX10_hasGrown_4 {G : td_G} {d : Nat} {Post : td_P} {x1 x2 x3 : Int32} {h : td_H} (K : ((h 86 9) ≤ x3 → ((x2 = 0 ∨ x2 = 1) ∧ Post (some (.int x2)) h)) ∧ (¬ (h 86 9) ≤ x3 → ((¬ x2 = 0 → td_J G d mX10_hasGrown Post 41 [(0, .ref 85), (1, .int x1), (2, .int x2), (3, .int x3)] [] h) ∧ (x2 = 0 → td_J G d mX10_hasGrown Post 21 [(0, .ref 85), (1, .int x1), (2, .int x2), (3, .int x3)] [.int x1, .ref 85] h)))) : td_J G d mX10_hasGrown Post 4 [(0, .ref 85), (1, .int x1), (2, .int x2), (3, .int x3)] [] h := by
  refine td_iload_n 3 dX10_hasGrown_4 rfl ?_
  refine td_aload_n 0 dX10_hasGrown_5 rfl ?_
  refine gf_X10_7 rfl kp_85 dX10_hasGrown_6 ?_
  refine td_bipush (v := 9) dX10_hasGrown_9 (by decide) ?_
  refine td_ialdc (j := 9) kp_86 (by decide) (by unfold vp_in; decide) (by decide) dX10_hasGrown_11 ?_
  obtain ⟨Kt, Kf⟩ := K
  refine td_icmp_ge (tgt := 53) dX10_hasGrown_12 (by decide) (fun q => ?_) (fun q => ?_)
  · have K := Kt q
    refine td_iload_n 2 dX10_hasGrown_53 rfl ?_
    obtain ⟨e54, K⟩ := K
    exact td_zreturn rfl (td_nb e54) dX10_hasGrown_54 K
  · have K := Kf q
    refine td_iload_n 2 dX10_hasGrown_15 rfl ?_
    obtain ⟨Kt, Kf⟩ := K
    refine td_if_ne (tgt := 41) dX10_hasGrown_16 (by decide) (fun q => ?_) (fun q => ?_)
    · have K := Kt q
      exact K
    · have K := Kf q
      refine td_aload_n 0 dX10_hasGrown_19 rfl ?_
      refine td_iload_n 1 dX10_hasGrown_20 rfl ?_
      exact K
set_option maxRecDepth 20000 in
theorem rX10_hasGrown_24 {G : td_G} {d : Nat} {Post : td_P} {x1 x2 x3 s0 : Int32} {h : td_H} (K : td_J G d mX10_hasGrown Post 25 [(0, .ref 85), (1, .int x1), (2, .int x2), (3, .int x3)] [.int x3, .int s0] h) : td_J G d mX10_hasGrown Post 24 [(0, .ref 85), (1, .int x1), (2, .int x2), (3, .int x3)] [.int s0] h := by
  refine td_iload_n 3 dX10_hasGrown_24 rfl ?_
  exact K
set_option maxRecDepth 20000 in
theorem rX10_hasGrown_28 {G : td_G} {d : Nat} {Post : td_P} {x1 x2 x3 s0 : Int32} {h : td_H} (K : (s0 = 0 → td_J G d mX10_hasGrown Post 45 [(0, .ref 85), (1, .int x1), (2, .int x2), (3, .int x3)] [] h) ∧ (¬ s0 = 0 → td_J G d mX10_hasGrown Post 34 [(0, .ref 85), (1, .int x1), (2, .int x2), (3, .int x3)] [.int 2, .int x3, .ref 85] h)) : td_J G d mX10_hasGrown Post 28 [(0, .ref 85), (1, .int x1), (2, .int x2), (3, .int x3)] [.int s0] h := by
  obtain ⟨Kt, Kf⟩ := K
  refine td_if_eq (tgt := 45) dX10_hasGrown_28 (by decide) (fun q => ?_) (fun q => ?_)
  · have K := Kt q
    exact K
  · have K := Kf q
    refine td_aload_n 0 dX10_hasGrown_31 rfl ?_
    refine td_iload_n 3 dX10_hasGrown_32 rfl ?_
    refine td_iconst (v := 2) dX10_hasGrown_33 (by decide) ?_
    exact K
set_option maxRecDepth 20000 in
theorem rX10_hasGrown_37 {G : td_G} {d : Nat} {Post : td_P} {x1 x2 x3 s0 : Int32} {h : td_H} (K : (s0 = 3 → td_J G d mX10_hasGrown Post 45 [(0, .ref 85), (1, .int x1), (2, .int x2), (3, .int x3)] [] h) ∧ (¬ s0 = 3 → td_J G d mX10_hasGrown Post 41 [(0, .ref 85), (1, .int x1), (2, .int x2), (3, .int x3)] [] h)) : td_J G d mX10_hasGrown Post 37 [(0, .ref 85), (1, .int x1), (2, .int x2), (3, .int x3)] [.int s0] h := by
  refine td_iconst (v := 3) dX10_hasGrown_37 (by decide) ?_
  obtain ⟨Kt, Kf⟩ := K
  refine td_icmp_eq (tgt := 45) dX10_hasGrown_38 (by decide) (fun q => ?_) (fun q => ?_)
  · have K := Kt q
    exact K
  · have K := Kf q
    exact K
set_option maxRecDepth 20000 in
theorem rX10_hasGrown_41 {G : td_G} {d : Nat} {Post : td_P} {x1 x2 x3 : Int32} {h : td_H} (K : td_J G d mX10_hasGrown Post 46 [(0, .ref 85), (1, .int x1), (2, .int x2), (3, .int x3)] [.int 1] h) : td_J G d mX10_hasGrown Post 41 [(0, .ref 85), (1, .int x1), (2, .int x2), (3, .int x3)] [] h := by
  refine td_iconst (v := 1) dX10_hasGrown_41 (by decide) ?_
  refine td_goto (tgt := 46) dX10_hasGrown_42 (by decide) ?_
  exact K
set_option maxRecDepth 20000 in
theorem rX10_hasGrown_45 {G : td_G} {d : Nat} {Post : td_P} {x1 x2 x3 : Int32} {h : td_H} (K : td_J G d mX10_hasGrown Post 46 [(0, .ref 85), (1, .int x1), (2, .int x2), (3, .int x3)] [.int 0] h) : td_J G d mX10_hasGrown Post 45 [(0, .ref 85), (1, .int x1), (2, .int x2), (3, .int x3)] [] h := by
  refine td_iconst (v := 0) dX10_hasGrown_45 (by decide) ?_
  exact K
set_option maxRecDepth 20000 in
theorem rX10_hasGrown_46 {G : td_G} {d : Nat} {Post : td_P} {x1 x2 x3 s0 : Int32} {h : td_H} (K : td_J G d mX10_hasGrown Post 4 [(0, .ref 85), (1, .int x1), (2, .int s0), (3, .int (x3 + 1))] [] h) : td_J G d mX10_hasGrown Post 46 [(0, .ref 85), (1, .int x1), (2, .int x2), (3, .int x3)] [.int s0] h := by
  refine td_istore_n (lv2 := [(0, .ref 85), (1, .int x1), (2, .int s0), (3, .int x3)]) dX10_hasGrown_46 (by decide) rfl ?_
  refine td_iinc 3 (v := x3 + 1) (lv2 := [(0, .ref 85), (1, .int x1), (2, .int s0), (3, .int (x3 + 1))]) dX10_hasGrown_47 rfl (congrArg (x3 + ·) (by decide)) (by decide) rfl ?_
  refine td_goto (tgt := 4) dX10_hasGrown_50 (by decide) ?_
  exact K
set_option maxRecDepth 20000 in
theorem rX10_partFor_0 {G : td_G} {d : Nat} {Post : td_P} {x1 : Int32} {h : td_H} (K : td_J G d mX10_partFor Post 3 [(0, .ref 85), (1, .int x1)] [.int 2, .int x1, .ref 85] h) : td_J G d mX10_partFor Post 0 [(0, .ref 85), (1, .int x1)] [] h := by
  refine td_aload_n 0 dX10_partFor_0 rfl ?_
  refine td_iload_n 1 dX10_partFor_1 rfl ?_
  refine td_iconst (v := 2) dX10_partFor_2 (by decide) ?_
  exact K
set_option maxRecDepth 20000 in
theorem rX10_partFor_6 {G : td_G} {d : Nat} {Post : td_P} {x1 s0 : Int32} {h : td_H} (K : td_J G d mX10_partFor Post 10 [(0, .ref 85), (1, .int x1), (2, .int s0)] [.int 1, .int x1, .ref 85] h) : td_J G d mX10_partFor Post 6 [(0, .ref 85), (1, .int x1)] [.int s0] h := by
  refine td_istore_n (lv2 := [(0, .ref 85), (1, .int x1), (2, .int s0)]) dX10_partFor_6 (by decide) rfl ?_
  refine td_aload_n 0 dX10_partFor_7 rfl ?_
  refine td_iload_n 1 dX10_partFor_8 rfl ?_
  refine td_iconst (v := 1) dX10_partFor_9 (by decide) ?_
  exact K
set_option maxRecDepth 20000 in
theorem rX10_partFor_13 {G : td_G} {d : Nat} {Post : td_P} {x1 x2 s0 : Int32} {h : td_H} (K : td_J G d mX10_partFor Post 21 [(0, .ref 85), (1, .int x1), (2, .int x2), (3, .int s0), (4, .int (-4)), (5, .int 0)] [] h) : td_J G d mX10_partFor Post 13 [(0, .ref 85), (1, .int x1), (2, .int x2)] [.int s0] h := by
  refine td_istore_n (lv2 := [(0, .ref 85), (1, .int x1), (2, .int x2), (3, .int s0)]) dX10_partFor_13 (by decide) rfl ?_
  refine td_bipush (v := (-4)) dX10_partFor_14 (by decide) ?_
  refine td_istore (lv2 := [(0, .ref 85), (1, .int x1), (2, .int x2), (3, .int s0), (4, .int (-4))]) dX10_partFor_16 (by decide) rfl ?_
  refine td_iconst (v := 0) dX10_partFor_18 (by decide) ?_
  refine td_istore (lv2 := [(0, .ref 85), (1, .int x1), (2, .int x2), (3, .int s0), (4, .int (-4)), (5, .int 0)]) dX10_partFor_19 (by decide) rfl ?_
  exact K
set_option maxRecDepth 20000 in
theorem rX10_partFor_21 {G : td_G} {d : Nat} {Post : td_P} {x1 x2 x3 x4 x5 : Int32} {h : td_H} (K : ((h 87 0) ≤ x5 → ((x2 = 1 → td_J G d mX10_partFor Post 140 [(0, .ref 85), (1, .int x1), (2, .int x2), (3, .int x3), (4, .int x4), (5, .int x5)] [] h) ∧ (¬ x2 = 1 → ((¬ x2 = 2 → td_J G d mX10_partFor Post 153 [(0, .ref 85), (1, .int x1), (2, .int x2), (3, .int x3), (4, .int x4), (5, .int x5)] [] h) ∧ (x2 = 2 → td_J G d mX10_partFor Post 140 [(0, .ref 85), (1, .int x1), (2, .int x2), (3, .int x3), (4, .int x4), (5, .int x5)] [] h))))) ∧ (¬ (h 87 0) ≤ x5 → td_J G d mX10_partFor Post 40 [(0, .ref 85), (1, .int x1), (2, .int x2), (3, .int x3), (4, .int x4), (5, .int x5)] [.int (h 85 17), .int x3, .int x5, .ref 85] h)) : td_J G d mX10_partFor Post 21 [(0, .ref 85), (1, .int x1), (2, .int x2), (3, .int x3), (4, .int x4), (5, .int x5)] [] h := by
  refine td_iload 5 dX10_partFor_21 rfl ?_
  refine td_aload_n 0 dX10_partFor_23 rfl ?_
  refine gf_X10_13 rfl kp_85 dX10_partFor_24 ?_
  refine td_iconst (v := 0) dX10_partFor_27 (by decide) ?_
  refine td_ialdc (j := 0) kp_87 (by decide) (by unfold vp_in; decide) (by decide) dX10_partFor_28 ?_
  obtain ⟨Kt, Kf⟩ := K
  refine td_icmp_ge (tgt := 130) dX10_partFor_29 (by decide) (fun q => ?_) (fun q => ?_)
  · have K := Kt q
    refine td_iload_n 2 dX10_partFor_130 rfl ?_
    refine td_iconst (v := 1) dX10_partFor_131 (by decide) ?_
    obtain ⟨Kt, Kf⟩ := K
    refine td_icmp_eq (tgt := 140) dX10_partFor_132 (by decide) (fun q => ?_) (fun q => ?_)
    · have K := Kt q
      exact K
    · have K := Kf q
      refine td_iload_n 2 dX10_partFor_135 rfl ?_
      refine td_iconst (v := 2) dX10_partFor_136 (by decide) ?_
      obtain ⟨Kt, Kf⟩ := K
      refine td_icmp_ne (tgt := 153) dX10_partFor_137 (by decide) (fun q => ?_) (fun q => ?_)
      · have K := Kt q
        exact K
      · have K := Kf q
        exact K
  · have K := Kf q
    refine td_aload_n 0 dX10_partFor_32 rfl ?_
    refine td_iload 5 dX10_partFor_33 rfl ?_
    refine td_iload_n 3 dX10_partFor_35 rfl ?_
    refine td_aload_n 0 dX10_partFor_36 rfl ?_
    refine gf_X10_176 rfl kp_85 dX10_partFor_37 ?_
    exact K
set_option maxRecDepth 20000 in
theorem rX10_partFor_43 {G : td_G} {d : Nat} {Post : td_P} {x1 x2 x3 x4 x5 s0 : Int32} {h : td_H} (K : (s0 = 0 → td_J G d mX10_partFor Post 77 [(0, .ref 85), (1, .int x1), (2, .int x2), (3, .int x3), (4, .int x4), (5, .int x5)] [] h) ∧ (¬ s0 = 0 → td_J G d mX10_partFor Post 49 [(0, .ref 85), (1, .int x1), (2, .int x2), (3, .int x3), (4, .int x4), (5, .int x5)] [.int x5, .ref 85] h)) : td_J G d mX10_partFor Post 43 [(0, .ref 85), (1, .int x1), (2, .int x2), (3, .int x3), (4, .int x4), (5, .int x5)] [.int s0] h := by
  obtain ⟨Kt, Kf⟩ := K
  refine td_if_eq (tgt := 77) dX10_partFor_43 (by decide) (fun q => ?_) (fun q => ?_)
  · have K := Kt q
    exact K
  · have K := Kf q
    refine td_aload_n 0 dX10_partFor_46 rfl ?_
    refine td_iload 5 dX10_partFor_47 rfl ?_
    exact K
set_option maxRecDepth 20000 in
theorem rX10_partFor_52 {G : td_G} {d : Nat} {Post : td_P} {x1 x2 x3 x4 x5 s0 : Int32} {h : td_H} (K : td_J G d mX10_partFor Post 53 [(0, .ref 85), (1, .int x1), (2, .int x2), (3, .int x3), (4, .int x4), (5, .int x5)] [.int x2, .int s0] h) : td_J G d mX10_partFor Post 52 [(0, .ref 85), (1, .int x1), (2, .int x2), (3, .int x3), (4, .int x4), (5, .int x5)] [.int s0] h := by
  refine td_iload_n 2 dX10_partFor_52 rfl ?_
  exact K
set_option maxRecDepth 20000 in
theorem rX10_partFor_56 {G : td_G} {d : Nat} {Post : td_P} {x1 x2 x3 x4 x5 s0 s1 : Int32} {h : td_H} (K : (s0 < s1 → td_J G d mX10_partFor Post 77 [(0, .ref 85), (1, .int x1), (2, .int x2), (3, .int x3), (4, .int x4), (5, .int x5)] [] h) ∧ (¬ s0 < s1 → ((¬ x2 = 3 → td_J G d mX10_partFor Post 73 [(0, .ref 85), (1, .int x1), (2, .int x2), (3, .int x3), (4, .int x4), (5, .int x5)] [] h) ∧ (x2 = 3 → td_J G d mX10_partFor Post 67 [(0, .ref 85), (1, .int x1), (2, .int x2), (3, .int x3), (4, .int x4), (5, .int x5)] [.int x5, .ref 85] h)))) : td_J G d mX10_partFor Post 56 [(0, .ref 85), (1, .int x1), (2, .int x2), (3, .int x3), (4, .int x4), (5, .int x5)] [.int s1, .int s0] h := by
  obtain ⟨Kt, Kf⟩ := K
  refine td_icmp_lt (tgt := 77) dX10_partFor_56 (by decide) (fun q => ?_) (fun q => ?_)
  · have K := Kt q
    exact K
  · have K := Kf q
    refine td_iload_n 2 dX10_partFor_59 rfl ?_
    refine td_iconst (v := 3) dX10_partFor_60 (by decide) ?_
    obtain ⟨Kt, Kf⟩ := K
    refine td_icmp_ne (tgt := 73) dX10_partFor_61 (by decide) (fun q => ?_) (fun q => ?_)
    · have K := Kt q
      exact K
    · have K := Kf q
      refine td_aload_n 0 dX10_partFor_64 rfl ?_
      refine td_iload 5 dX10_partFor_65 rfl ?_
      exact K
set_option maxRecDepth 20000 in
theorem rX10_partFor_70 {G : td_G} {d : Nat} {Post : td_P} {x1 x2 x3 x4 x5 s0 : Int32} {h : td_H} (K : (s0 = 0 → td_J G d mX10_partFor Post 77 [(0, .ref 85), (1, .int x1), (2, .int x2), (3, .int x3), (4, .int x4), (5, .int x5)] [] h) ∧ (¬ s0 = 0 → td_J G d mX10_partFor Post 73 [(0, .ref 85), (1, .int x1), (2, .int x2), (3, .int x3), (4, .int x4), (5, .int x5)] [] h)) : td_J G d mX10_partFor Post 70 [(0, .ref 85), (1, .int x1), (2, .int x2), (3, .int x3), (4, .int x4), (5, .int x5)] [.int s0] h := by
  obtain ⟨Kt, Kf⟩ := K
  refine td_if_eq (tgt := 77) dX10_partFor_70 (by decide) (fun q => ?_) (fun q => ?_)
  · have K := Kt q
    exact K
  · have K := Kf q
    exact K
set_option maxRecDepth 20000 in
theorem rX10_partFor_73 {G : td_G} {d : Nat} {Post : td_P} {x1 x2 x3 x4 x5 : Int32} {h : td_H} (K : td_J G d mX10_partFor Post 78 [(0, .ref 85), (1, .int x1), (2, .int x2), (3, .int x3), (4, .int x4), (5, .int x5)] [.int 1] h) : td_J G d mX10_partFor Post 73 [(0, .ref 85), (1, .int x1), (2, .int x2), (3, .int x3), (4, .int x4), (5, .int x5)] [] h := by
  refine td_iconst (v := 1) dX10_partFor_73 (by decide) ?_
  refine td_goto (tgt := 78) dX10_partFor_74 (by decide) ?_
  exact K
set_option maxRecDepth 20000 in
theorem rX10_partFor_77 {G : td_G} {d : Nat} {Post : td_P} {x1 x2 x3 x4 x5 : Int32} {h : td_H} (K : td_J G d mX10_partFor Post 78 [(0, .ref 85), (1, .int x1), (2, .int x2), (3, .int x3), (4, .int x4), (5, .int x5)] [.int 0] h) : td_J G d mX10_partFor Post 77 [(0, .ref 85), (1, .int x1), (2, .int x2), (3, .int x3), (4, .int x4), (5, .int x5)] [] h := by
  refine td_iconst (v := 0) dX10_partFor_77 (by decide) ?_
  exact K
set_option maxRecDepth 20000 in
theorem rX10_partFor_78 {G : td_G} {d : Nat} {Post : td_P} {x1 x2 x3 x4 x5 s0 : Int32} {h : td_H} (K : (s0 = 0 → td_J G d mX10_partFor Post 120 [(0, .ref 85), (1, .int x1), (2, .int x2), (3, .int x3), (4, .int x4), (5, .int x5), (6, .int s0)] [] h) ∧ (¬ s0 = 0 → ((x4 < 0 → td_J G d mX10_partFor Post 115 [(0, .ref 85), (1, .int x1), (2, .int x2), (3, .int x3), (4, .int x4), (5, .int x5), (6, .int s0)] [] h) ∧ (¬ x4 < 0 → td_J G d mX10_partFor Post 98 [(0, .ref 85), (1, .int x1), (2, .int x2), (3, .int x3), (4, .int x4), (5, .int x5), (6, .int s0)] [.int (h 85 17), .int x3, .int x5, .ref 85] h)))) : td_J G d mX10_partFor Post 78 [(0, .ref 85), (1, .int x1), (2, .int x2), (3, .int x3), (4, .int x4), (5, .int x5)] [.int s0] h := by
  refine td_istore (lv2 := [(0, .ref 85), (1, .int x1), (2, .int x2), (3, .int x3), (4, .int x4), (5, .int x5), (6, .int s0)]) dX10_partFor_78 (by decide) rfl ?_
  refine td_iload 6 dX10_partFor_80 rfl ?_
  obtain ⟨Kt, Kf⟩ := K
  refine td_if_eq (tgt := 120) dX10_partFor_82 (by decide) (fun q => ?_) (fun q => ?_)
  · have K := Kt q
    exact K
  · have K := Kf q
    refine td_iload 4 dX10_partFor_85 rfl ?_
    obtain ⟨Kt, Kf⟩ := K
    refine td_if_lt (tgt := 115) dX10_partFor_87 (by decide) (fun q => ?_) (fun q => ?_)
    · have K := Kt q
      exact K
    · have K := Kf q
      refine td_aload_n 0 dX10_partFor_90 rfl ?_
      refine td_iload 5 dX10_partFor_91 rfl ?_
      refine td_iload_n 3 dX10_partFor_93 rfl ?_
      refine td_aload_n 0 dX10_partFor_94 rfl ?_
      refine gf_X10_176 rfl kp_85 dX10_partFor_95 ?_
      exact K
set_option maxRecDepth 20000 in
theorem rX10_partFor_101 {G : td_G} {d : Nat} {Post : td_P} {x1 x2 x3 x4 x5 x6 s0 : Int32} {h : td_H} (K : td_J G d mX10_partFor Post 109 [(0, .ref 85), (1, .int x1), (2, .int x2), (3, .int x3), (4, .int x4), (5, .int x5), (6, .int x6)] [.int (h 85 17), .int x3, .int x4, .ref 85, .int s0] h) : td_J G d mX10_partFor Post 101 [(0, .ref 85), (1, .int x1), (2, .int x2), (3, .int x3), (4, .int x4), (5, .int x5), (6, .int x6)] [.int s0] h := by
  refine td_aload_n 0 dX10_partFor_101 rfl ?_
  refine td_iload 4 dX10_partFor_102 rfl ?_
  refine td_iload_n 3 dX10_partFor_104 rfl ?_
  refine td_aload_n 0 dX10_partFor_105 rfl ?_
  refine gf_X10_176 rfl kp_85 dX10_partFor_106 ?_
  exact K
set_option maxRecDepth 20000 in
theorem rX10_partFor_112 {G : td_G} {d : Nat} {Post : td_P} {x1 x2 x3 x4 x5 x6 s0 s1 : Int32} {h : td_H} (K : (s0 ≤ s1 → td_J G d mX10_partFor Post 120 [(0, .ref 85), (1, .int x1), (2, .int x2), (3, .int x3), (4, .int x4), (5, .int x5), (6, .int x6)] [] h) ∧ (¬ s0 ≤ s1 → td_J G d mX10_partFor Post 115 [(0, .ref 85), (1, .int x1), (2, .int x2), (3, .int x3), (4, .int x4), (5, .int x5), (6, .int x6)] [] h)) : td_J G d mX10_partFor Post 112 [(0, .ref 85), (1, .int x1), (2, .int x2), (3, .int x3), (4, .int x4), (5, .int x5), (6, .int x6)] [.int s1, .int s0] h := by
  obtain ⟨Kt, Kf⟩ := K
  refine td_icmp_le (tgt := 120) dX10_partFor_112 (by decide) (fun q => ?_) (fun q => ?_)
  · have K := Kt q
    exact K
  · have K := Kf q
    exact K
set_option maxRecDepth 20000 in
theorem rX10_partFor_115 {G : td_G} {d : Nat} {Post : td_P} {x1 x2 x3 x4 x5 x6 : Int32} {h : td_H} (K : td_J G d mX10_partFor Post 122 [(0, .ref 85), (1, .int x1), (2, .int x2), (3, .int x3), (4, .int x4), (5, .int x5), (6, .int x6)] [.int x5] h) : td_J G d mX10_partFor Post 115 [(0, .ref 85), (1, .int x1), (2, .int x2), (3, .int x3), (4, .int x4), (5, .int x5), (6, .int x6)] [] h := by
  refine td_iload 5 dX10_partFor_115 rfl ?_
  refine td_goto (tgt := 122) dX10_partFor_117 (by decide) ?_
  exact K
set_option maxRecDepth 20000 in
theorem rX10_partFor_120 {G : td_G} {d : Nat} {Post : td_P} {x1 x2 x3 x4 x5 x6 : Int32} {h : td_H} (K : td_J G d mX10_partFor Post 122 [(0, .ref 85), (1, .int x1), (2, .int x2), (3, .int x3), (4, .int x4), (5, .int x5), (6, .int x6)] [.int x4] h) : td_J G d mX10_partFor Post 120 [(0, .ref 85), (1, .int x1), (2, .int x2), (3, .int x3), (4, .int x4), (5, .int x5), (6, .int x6)] [] h := by
  refine td_iload 4 dX10_partFor_120 rfl ?_
  exact K
set_option maxRecDepth 20000 in
theorem rX10_partFor_122 {G : td_G} {d : Nat} {Post : td_P} {x1 x2 x3 x4 x5 x6 s0 : Int32} {h : td_H} (K : td_J G d mX10_partFor Post 21 [(0, .ref 85), (1, .int x1), (2, .int x2), (3, .int x3), (4, .int s0), (5, .int (x5 + 1))] [] h) : td_J G d mX10_partFor Post 122 [(0, .ref 85), (1, .int x1), (2, .int x2), (3, .int x3), (4, .int x4), (5, .int x5), (6, .int x6)] [.int s0] h := by
  refine td_istore (lv2 := [(0, .ref 85), (1, .int x1), (2, .int x2), (3, .int x3), (4, .int s0), (5, .int x5), (6, .int x6)]) dX10_partFor_122 (by decide) rfl ?_
  refine td_iinc 5 (v := x5 + 1) (lv2 := [(0, .ref 85), (1, .int x1), (2, .int x2), (3, .int x3), (4, .int s0), (5, .int (x5 + 1)), (6, .int x6)]) dX10_partFor_124 rfl (congrArg (x5 + ·) (by decide)) (by decide) rfl ?_
  refine td_goto (tgt := 21) dX10_partFor_127 (by decide) ?_
  refine td_drop [0, 1, 2, 3, 4, 5] rfl ?_
  exact K
set_option maxRecDepth 20000 in
theorem rX10_partFor_140 {G : td_G} {d : Nat} {Post : td_P} {x1 x2 x3 x4 x5 : Int32} {h : td_H} (K : ((h 85 18) < 2 → td_J G d mX10_partFor Post 153 [(0, .ref 85), (1, .int x1), (2, .int x2), (3, .int x3), (4, .int x4), (5, .int x5)] [] h) ∧ (¬ (h 85 18) < 2 → td_J G d mX10_partFor Post 155 [(0, .ref 85), (1, .int x1), (2, .int x2), (3, .int x3), (4, .int x4), (5, .int x5)] [.int (-4)] h)) : td_J G d mX10_partFor Post 140 [(0, .ref 85), (1, .int x1), (2, .int x2), (3, .int x3), (4, .int x4), (5, .int x5)] [] h := by
  refine td_aload_n 0 dX10_partFor_140 rfl ?_
  refine gf_X10_173 rfl kp_85 dX10_partFor_141 ?_
  refine td_iconst (v := 2) dX10_partFor_144 (by decide) ?_
  obtain ⟨Kt, Kf⟩ := K
  refine td_icmp_lt (tgt := 153) dX10_partFor_145 (by decide) (fun q => ?_) (fun q => ?_)
  · have K := Kt q
    exact K
  · have K := Kf q
    refine td_bipush (v := (-4)) dX10_partFor_148 (by decide) ?_
    refine td_goto (tgt := 155) dX10_partFor_150 (by decide) ?_
    exact K
set_option maxRecDepth 20000 in
theorem rX10_partFor_153 {G : td_G} {d : Nat} {Post : td_P} {x1 x2 x3 x4 x5 : Int32} {h : td_H} (K : td_J G d mX10_partFor Post 155 [(0, .ref 85), (1, .int x1), (2, .int x2), (3, .int x3), (4, .int x4), (5, .int x5)] [.int x4] h) : td_J G d mX10_partFor Post 153 [(0, .ref 85), (1, .int x1), (2, .int x2), (3, .int x3), (4, .int x4), (5, .int x5)] [] h := by
  refine td_iload 4 dX10_partFor_153 rfl ?_
  exact K
set_option maxRecDepth 20000 in
theorem rX10_partFor_155 {G : td_G} {d : Nat} {Post : td_P} {x1 x2 x3 x4 x5 s0 : Int32} {h : td_H} (K : Post (some (.int s0)) h) : td_J G d mX10_partFor Post 155 [(0, .ref 85), (1, .int x1), (2, .int x2), (3, .int x3), (4, .int x4), (5, .int x5)] [.int s0] h := by
  exact td_ireturn rfl dX10_partFor_155 K
set_option maxRecDepth 20000 in
theorem rX10_stepIn_0 {G : td_G} {d : Nat} {Post : td_P} {x1 x2 x3 : Int32} {h : td_H} (K : td_J G d mX10_stepIn Post 3 [(0, .ref 85), (1, .int x1), (2, .int x2), (3, .int x3)] [.int 2, .int x1, .ref 85] h) : td_J G d mX10_stepIn Post 0 [(0, .ref 85), (1, .int x1), (2, .int x2), (3, .int x3)] [] h := by
  refine td_aload_n 0 dX10_stepIn_0 rfl ?_
  refine td_iload_n 1 dX10_stepIn_1 rfl ?_
  refine td_iconst (v := 2) dX10_stepIn_2 (by decide) ?_
  exact K
set_option maxRecDepth 20000 in
theorem rX10_stepIn_6 {G : td_G} {d : Nat} {Post : td_P} {x1 x2 x3 s0 : Int32} {h : td_H} (K : td_J G d mX10_stepIn Post 10 [(0, .ref 85), (1, .int x1), (2, .int x2), (3, .int x3), (4, .int s0)] [.int x2, .ref 85] h) : td_J G d mX10_stepIn Post 6 [(0, .ref 85), (1, .int x1), (2, .int x2), (3, .int x3)] [.int s0] h := by
  refine td_istore (lv2 := [(0, .ref 85), (1, .int x1), (2, .int x2), (3, .int x3), (4, .int s0)]) dX10_stepIn_6 (by decide) rfl ?_
  refine td_aload_n 0 dX10_stepIn_8 rfl ?_
  refine td_iload_n 2 dX10_stepIn_9 rfl ?_
  exact K
set_option maxRecDepth 20000 in
theorem rX10_stepIn_13 {G : td_G} {d : Nat} {Post : td_P} {x1 x2 x3 x4 s0 : Int32} {h : td_H} (K : vp_in x1 12 ∧ (vp_in x1 12 ∧ (vp_in x1 12 ∧ (vp_in x1 12 ∧ (vp_in x1 12 ∧ (vp_in x1 12 ∧ (vp_in x1 12 ∧ (vp_in x1 12 ∧ (td_J G d mX10_stepIn Post 71 [(0, .ref 85), (1, .int x1), (2, .int x2), (3, .int x3), (4, .int x4), (5, .int s0), (6, .int 0)] [] (hu (hu (hu (hu (hu (hu h 91 (ix x1) 2) 92 (ix x1) x2) 93 (ix x1) x3) 95 (ix x1) (x3 - ((hu (hu (hu h 91 (ix x1) 2) 92 (ix x1) x2) 93 (ix x1) x3) 88 (ix x1)))) 97 (ix x1) 0) 98 (ix x1) (((hu (hu (hu (hu (hu h 91 (ix x1) 2) 92 (ix x1) x2) 93 (ix x1) x3) 95 (ix x1) (x3 - ((hu (hu (hu h 91 (ix x1) 2) 92 (ix x1) x2) 93 (ix x1) x3) 88 (ix x1)))) 97 (ix x1) 0) 98 (ix x1)) ||| s0))))))))))) : td_J G d mX10_stepIn Post 13 [(0, .ref 85), (1, .int x1), (2, .int x2), (3, .int x3), (4, .int x4)] [.int s0] h := by
  refine td_istore (lv2 := [(0, .ref 85), (1, .int x1), (2, .int x2), (3, .int x3), (4, .int x4), (5, .int s0)]) dX10_stepIn_13 (by decide) rfl ?_
  refine td_aload_n 0 dX10_stepIn_15 rfl ?_
  refine gf_X10_25 rfl kp_85 dX10_stepIn_16 ?_
  refine td_iload_n 1 dX10_stepIn_19 rfl ?_
  refine td_iconst (v := 2) dX10_stepIn_20 (by decide) ?_
  obtain ⟨e21, K⟩ := K
  refine td_iastc (j := (ix x1)) kp_91 (by decide) e21 rfl dX10_stepIn_21 ?_
  refine td_aload_n 0 dX10_stepIn_22 rfl ?_
  refine gf_X10_28 rfl kp_85 dX10_stepIn_23 ?_
  refine td_iload_n 1 dX10_stepIn_26 rfl ?_
  refine td_iload_n 2 dX10_stepIn_27 rfl ?_
  obtain ⟨e28, K⟩ := K
  refine td_iastc (j := (ix x1)) kp_92 (by decide) e28 rfl dX10_stepIn_28 ?_
  refine td_aload_n 0 dX10_stepIn_29 rfl ?_
  refine gf_X10_31 rfl kp_85 dX10_stepIn_30 ?_
  refine td_iload_n 1 dX10_stepIn_33 rfl ?_
  refine td_iload_n 3 dX10_stepIn_34 rfl ?_
  obtain ⟨e35, K⟩ := K
  refine td_iastc (j := (ix x1)) kp_93 (by decide) e35 rfl dX10_stepIn_35 ?_
  refine td_aload_n 0 dX10_stepIn_36 rfl ?_
  refine gf_X10_37 rfl kp_85 dX10_stepIn_37 ?_
  refine td_iload_n 1 dX10_stepIn_40 rfl ?_
  refine td_iload_n 3 dX10_stepIn_41 rfl ?_
  refine td_aload_n 0 dX10_stepIn_42 rfl ?_
  refine gf_X10_16 rfl kp_85 dX10_stepIn_43 ?_
  refine td_iload_n 1 dX10_stepIn_46 rfl ?_
  obtain ⟨e47, K⟩ := K
  refine td_ialdc (j := (ix x1)) kp_88 (by decide) e47 rfl dX10_stepIn_47 ?_
  refine td_isub dX10_stepIn_48 ?_
  obtain ⟨e49, K⟩ := K
  refine td_iastc (j := (ix x1)) kp_95 (by decide) e49 rfl dX10_stepIn_49 ?_
  refine td_aload_n 0 dX10_stepIn_50 rfl ?_
  refine gf_X10_43 rfl kp_85 dX10_stepIn_51 ?_
  refine td_iload_n 1 dX10_stepIn_54 rfl ?_
  refine td_iconst (v := 0) dX10_stepIn_55 (by decide) ?_
  obtain ⟨e56, K⟩ := K
  refine td_iastc (j := (ix x1)) kp_97 (by decide) e56 rfl dX10_stepIn_56 ?_
  refine td_aload_n 0 dX10_stepIn_57 rfl ?_
  refine gf_X10_46 rfl kp_85 dX10_stepIn_58 ?_
  refine td_iload_n 1 dX10_stepIn_61 rfl ?_
  refine td_dup2 dX10_stepIn_62 rfl rfl ?_
  obtain ⟨e63, K⟩ := K
  refine td_ialdc (j := (ix x1)) kp_98 (by decide) e63 rfl dX10_stepIn_63 ?_
  refine td_iload 5 dX10_stepIn_64 rfl ?_
  refine td_ior dX10_stepIn_66 ?_
  obtain ⟨e67, K⟩ := K
  refine td_iastc (j := (ix x1)) kp_98 (by decide) e67 rfl dX10_stepIn_67 ?_
  refine td_iconst (v := 0) dX10_stepIn_68 (by decide) ?_
  refine td_istore (lv2 := [(0, .ref 85), (1, .int x1), (2, .int x2), (3, .int x3), (4, .int x4), (5, .int s0), (6, .int 0)]) dX10_stepIn_69 (by decide) rfl ?_
  exact K
set_option maxRecDepth 20000 in
theorem rX10_stepIn_71 {G : td_G} {d : Nat} {Post : td_P} {x1 x2 x3 x4 x5 x6 : Int32} {h : td_H} (K : ((h 86 9) ≤ x6 → ((x4 = 1 → td_J G d mX10_stepIn Post 128 [(0, .ref 85), (1, .int x1), (2, .int x2), (3, .int x3), (4, .int x4), (5, .int x5), (6, .int x6)] [] h) ∧ (¬ x4 = 1 → ((¬ x4 = 2 → td_J G d mX10_stepIn Post 178 [(0, .ref 85), (1, .int x1), (2, .int x2), (3, .int x3), (4, .int x4), (5, .int x5), (6, .int x6)] [] h) ∧ (x4 = 2 → td_J G d mX10_stepIn Post 128 [(0, .ref 85), (1, .int x1), (2, .int x2), (3, .int x3), (4, .int x4), (5, .int x5), (6, .int x6)] [] h))))) ∧ (¬ (h 86 9) ≤ x6 → (vp_in x6 12 ∧ (td_J G d mX10_stepIn Post 95 [(0, .ref 85), (1, .int x1), (2, .int x2), (3, .int x3), (4, .int x4), (5, .int x5), (6, .int x6)] [.int x6, .int x5, .int (h 98 (ix x6)), .int x6, .ref 98] h)))) : td_J G d mX10_stepIn Post 71 [(0, .ref 85), (1, .int x1), (2, .int x2), (3, .int x3), (4, .int x4), (5, .int x5), (6, .int x6)] [] h := by
  refine td_iload 6 dX10_stepIn_71 rfl ?_
  refine td_aload_n 0 dX10_stepIn_73 rfl ?_
  refine gf_X10_7 rfl kp_85 dX10_stepIn_74 ?_
  refine td_bipush (v := 9) dX10_stepIn_77 (by decide) ?_
  refine td_ialdc (j := 9) kp_86 (by decide) (by unfold vp_in; decide) (by decide) dX10_stepIn_79 ?_
  obtain ⟨Kt, Kf⟩ := K
  refine td_icmp_ge (tgt := 116) dX10_stepIn_80 (by decide) (fun q => ?_) (fun q => ?_)
  · have K := Kt q
    refine td_iload 4 dX10_stepIn_116 rfl ?_
    refine td_iconst (v := 1) dX10_stepIn_118 (by decide) ?_
    obtain ⟨Kt, Kf⟩ := K
    refine td_icmp_eq (tgt := 128) dX10_stepIn_119 (by decide) (fun q => ?_) (fun q => ?_)
    · have K := Kt q
      exact K
    · have K := Kf q
      refine td_iload 4 dX10_stepIn_122 rfl ?_
      refine td_iconst (v := 2) dX10_stepIn_124 (by decide) ?_
      obtain ⟨Kt, Kf⟩ := K
      refine td_icmp_ne (tgt := 178) dX10_stepIn_125 (by decide) (fun q => ?_) (fun q => ?_)
      · have K := Kt q
        exact K
      · have K := Kf q
        exact K
  · have K := Kf q
    refine td_aload_n 0 dX10_stepIn_83 rfl ?_
    refine gf_X10_46 rfl kp_85 dX10_stepIn_84 ?_
    refine td_iload 6 dX10_stepIn_87 rfl ?_
    refine td_dup2 dX10_stepIn_89 rfl rfl ?_
    obtain ⟨e90, K⟩ := K
    refine td_ialdc (j := (ix x6)) kp_98 (by decide) e90 rfl dX10_stepIn_90 ?_
    refine td_iload 5 dX10_stepIn_91 rfl ?_
    refine td_iload 6 dX10_stepIn_93 rfl ?_
    exact K
set_option maxRecDepth 20000 in
theorem rX10_stepIn_98 {G : td_G} {d : Nat} {Post : td_P} {a0 na0 : Nat} {x1 x2 x3 x4 x5 x6 s1 s2 s3 : Int32} {h : td_H} (ha0 : td_kd a0 = 100 + na0) (ga0 : na0 ≠ 899) (K : (s3 = 0 → td_J G d mX10_stepIn Post 108 [(0, .ref 85), (1, .int x1), (2, .int x2), (3, .int x3), (4, .int x4), (5, .int x5), (6, .int x6)] [.int 0, .int s2, .int s1, .ref a0] h) ∧ (¬ s3 = 0 → td_J G d mX10_stepIn Post 108 [(0, .ref 85), (1, .int x1), (2, .int x2), (3, .int x3), (4, .int x4), (5, .int x5), (6, .int x6)] [.int (jshl 1 x1), .int s2, .int s1, .ref a0] h)) : td_J G d mX10_stepIn Post 98 [(0, .ref 85), (1, .int x1), (2, .int x2), (3, .int x3), (4, .int x4), (5, .int x5), (6, .int x6)] [.int s3, .int s2, .int s1, .ref a0] h := by
  obtain ⟨Kt, Kf⟩ := K
  refine td_if_eq (tgt := 107) dX10_stepIn_98 (by decide) (fun q => ?_) (fun q => ?_)
  · have K := Kt q
    refine td_iconst (v := 0) dX10_stepIn_107 (by decide) ?_
    exact K
  · have K := Kf q
    refine td_iconst (v := 1) dX10_stepIn_101 (by decide) ?_
    refine td_iload_n 1 dX10_stepIn_102 rfl ?_
    refine td_ishl dX10_stepIn_103 ?_
    refine td_goto (tgt := 108) dX10_stepIn_104 (by decide) ?_
    exact K
set_option maxRecDepth 20000 in
theorem rX10_stepIn_108 {G : td_G} {d : Nat} {Post : td_P} {a0 na0 : Nat} {x1 x2 x3 x4 x5 x6 s1 s2 s3 : Int32} {h : td_H} (ha0 : td_kd a0 = 100 + na0) (ga0 : na0 ≠ 899) (K : vp_in s1 na0 ∧ (td_J G d mX10_stepIn Post 71 [(0, .ref 85), (1, .int x1), (2, .int x2), (3, .int x3), (4, .int x4), (5, .int x5), (6, .int (x6 + 1))] [] (hu h a0 (ix s1) (s2 ||| s3)))) : td_J G d mX10_stepIn Post 108 [(0, .ref 85), (1, .int x1), (2, .int x2), (3, .int x3), (4, .int x4), (5, .int x5), (6, .int x6)] [.int s3, .int s2, .int s1, .ref a0] h := by
  refine td_ior dX10_stepIn_108 ?_
  obtain ⟨e109, K⟩ := K
  refine td_iastc (j := (ix s1)) ha0 ga0 e109 rfl dX10_stepIn_109 ?_
  refine td_iinc 6 (v := x6 + 1) (lv2 := [(0, .ref 85), (1, .int x1), (2, .int x2), (3, .int x3), (4, .int x4), (5, .int x5), (6, .int (x6 + 1))]) dX10_stepIn_110 rfl (congrArg (x6 + ·) (by decide)) (by decide) rfl ?_
  refine td_goto (tgt := 71) dX10_stepIn_113 (by decide) ?_
  exact K
set_option maxRecDepth 20000 in
theorem rX10_stepIn_128 {G : td_G} {d : Nat} {Post : td_P} {x1 x2 x3 x4 x5 x6 : Int32} {h : td_H} (K : (¬ (h 85 18) = 1 → td_J G d mX10_stepIn Post 178 [(0, .ref 85), (1, .int x1), (2, .int x2), (3, .int x3), (4, .int x4), (5, .int x5), (6, .int x6)] [] h) ∧ ((h 85 18) = 1 → td_J G d mX10_stepIn Post 141 [(0, .ref 85), (1, .int x1), (2, .int x2), (3, .int x3), (4, .int x4), (5, .int x5), (6, .int x6)] [.int 1, .int x1, .ref 85, .int x2, .ref 85] h)) : td_J G d mX10_stepIn Post 128 [(0, .ref 85), (1, .int x1), (2, .int x2), (3, .int x3), (4, .int x4), (5, .int x5), (6, .int x6)] [] h := by
  refine td_aload_n 0 dX10_stepIn_128 rfl ?_
  refine gf_X10_173 rfl kp_85 dX10_stepIn_129 ?_
  refine td_iconst (v := 1) dX10_stepIn_132 (by decide) ?_
  obtain ⟨Kt, Kf⟩ := K
  refine td_icmp_ne (tgt := 178) dX10_stepIn_133 (by decide) (fun q => ?_) (fun q => ?_)
  · have K := Kt q
    exact K
  · have K := Kf q
    refine td_aload_n 0 dX10_stepIn_136 rfl ?_
    refine td_iload_n 2 dX10_stepIn_137 rfl ?_
    refine td_aload_n 0 dX10_stepIn_138 rfl ?_
    refine td_iload_n 1 dX10_stepIn_139 rfl ?_
    refine td_iconst (v := 1) dX10_stepIn_140 (by decide) ?_
    exact K
set_option maxRecDepth 20000 in
theorem rX10_stepIn_144 {G : td_G} {d : Nat} {Post : td_P} {a0 : Nat} {x1 x2 x3 x4 x5 x6 s1 s2 : Int32} {h : td_H} (ha0 : td_kd a0 = 10) (K : td_J G d mX10_stepIn Post 148 [(0, .ref 85), (1, .int x1), (2, .int x2), (3, .int x3), (4, .int x4), (5, .int x5), (6, .int x6)] [.int (h 85 17), .int s2, .int s1, .ref a0] h) : td_J G d mX10_stepIn Post 144 [(0, .ref 85), (1, .int x1), (2, .int x2), (3, .int x3), (4, .int x4), (5, .int x5), (6, .int x6)] [.int s2, .int s1, .ref a0] h := by
  refine td_aload_n 0 dX10_stepIn_144 rfl ?_
  refine gf_X10_176 rfl kp_85 dX10_stepIn_145 ?_
  exact K
set_option maxRecDepth 20000 in
theorem rX10_stepIn_151 {G : td_G} {d : Nat} {Post : td_P} {x1 x2 x3 x4 x5 x6 s0 : Int32} {h : td_H} (K : (¬ s0 = (h 87 1) → td_J G d mX10_stepIn Post 178 [(0, .ref 85), (1, .int x1), (2, .int x2), (3, .int x3), (4, .int x4), (5, .int x5), (6, .int x6)] [] h) ∧ (s0 = (h 87 1) → (vp_in x1 12 ∧ (td_J G d mX10_stepIn Post 178 [(0, .ref 85), (1, .int x1), (2, .int x2), (3, .int x3), (4, .int x4), (5, .int x5), (6, .int x6)] [] (hu (hu h 96 (ix x1) 1) 85 19 ((hu h 96 (ix x1) 1) 87 7)))))) : td_J G d mX10_stepIn Post 151 [(0, .ref 85), (1, .int x1), (2, .int x2), (3, .int x3), (4, .int x4), (5, .int x5), (6, .int x6)] [.int s0] h := by
  refine td_aload_n 0 dX10_stepIn_151 rfl ?_
  refine gf_X10_13 rfl kp_85 dX10_stepIn_152 ?_
  refine td_iconst (v := 1) dX10_stepIn_155 (by decide) ?_
  refine td_ialdc (j := 1) kp_87 (by decide) (by unfold vp_in; decide) (by decide) dX10_stepIn_156 ?_
  obtain ⟨Kt, Kf⟩ := K
  refine td_icmp_ne (tgt := 178) dX10_stepIn_157 (by decide) (fun q => ?_) (fun q => ?_)
  · have K := Kt q
    exact K
  · have K := Kf q
    refine td_aload_n 0 dX10_stepIn_160 rfl ?_
    refine gf_X10_40 rfl kp_85 dX10_stepIn_161 ?_
    refine td_iload_n 1 dX10_stepIn_164 rfl ?_
    refine td_iconst (v := 1) dX10_stepIn_165 (by decide) ?_
    obtain ⟨e166, K⟩ := K
    refine td_iastc (j := (ix x1)) kp_96 (by decide) e166 rfl dX10_stepIn_166 ?_
    refine td_aload_n 0 dX10_stepIn_167 rfl ?_
    refine td_aload_n 0 dX10_stepIn_168 rfl ?_
    refine gf_X10_13 rfl kp_85 dX10_stepIn_169 ?_
    refine td_bipush (v := 7) dX10_stepIn_172 (by decide) ?_
    refine td_ialdc (j := 7) kp_87 (by decide) (by unfold vp_in; decide) (by decide) dX10_stepIn_174 ?_
    refine pf_X10_170 rfl kp_85 dX10_stepIn_175 ?_
    exact K
set_option maxRecDepth 20000 in
theorem rX10_stepIn_178 {G : td_G} {d : Nat} {Post : td_P} {x1 x2 x3 x4 x5 x6 : Int32} {h : td_H} (K : Post none h) : td_J G d mX10_stepIn Post 178 [(0, .ref 85), (1, .int x1), (2, .int x2), (3, .int x3), (4, .int x4), (5, .int x5), (6, .int x6)] [] h := by
  exact td_return rfl dX10_stepIn_178 K
set_option maxRecDepth 20000 in
theorem rX10_allStepIn_0 {G : td_G} {d : Nat} {Post : td_P} {x1 : Int32} {h : td_H} (K : td_J G d mX10_allStepIn Post 2 [(0, .ref 85), (1, .int x1), (2, .int 0)] [] h) : td_J G d mX10_allStepIn Post 0 [(0, .ref 85), (1, .int x1)] [] h := by
  refine td_iconst (v := 0) dX10_allStepIn_0 (by decide) ?_
  refine td_istore_n (lv2 := [(0, .ref 85), (1, .int x1), (2, .int 0)]) dX10_allStepIn_1 (by decide) rfl ?_
  exact K
set_option maxRecDepth 20000 in
theorem rX10_allStepIn_2 {G : td_G} {d : Nat} {Post : td_P} {x1 x2 : Int32} {h : td_H} (K : (2 ≤ x2 → (Post none h)) ∧ (¬ 2 ≤ x2 → td_J G d mX10_allStepIn Post 9 [(0, .ref 85), (1, .int x1), (2, .int x2)] [.int x2, .ref 85] h)) : td_J G d mX10_allStepIn Post 2 [(0, .ref 85), (1, .int x1), (2, .int x2)] [] h := by
  refine td_iload_n 2 dX10_allStepIn_2 rfl ?_
  refine td_iconst (v := 2) dX10_allStepIn_3 (by decide) ?_
  obtain ⟨Kt, Kf⟩ := K
  refine td_icmp_ge (tgt := 51) dX10_allStepIn_4 (by decide) (fun q => ?_) (fun q => ?_)
  · have K := Kt q
    exact td_return rfl dX10_allStepIn_51 K
  · have K := Kf q
    refine td_aload_n 0 dX10_allStepIn_7 rfl ?_
    refine td_iload_n 2 dX10_allStepIn_8 rfl ?_
    exact K
set_option maxRecDepth 20000 in
theorem rX10_allStepIn_12 {G : td_G} {d : Nat} {Post : td_P} {x1 x2 s0 : Int32} {h : td_H} (K : td_J G d mX10_allStepIn Post 13 [(0, .ref 85), (1, .int x1), (2, .int x2), (3, .int s0)] [] h) : td_J G d mX10_allStepIn Post 12 [(0, .ref 85), (1, .int x1), (2, .int x2)] [.int s0] h := by
  refine td_istore_n (lv2 := [(0, .ref 85), (1, .int x1), (2, .int x2), (3, .int s0)]) dX10_allStepIn_12 (by decide) rfl ?_
  exact K
set_option maxRecDepth 20000 in
theorem rX10_allStepIn_13 {G : td_G} {d : Nat} {Post : td_P} {x1 x2 x3 : Int32} {h : td_H} (K : (x3 < 0 → td_J G d mX10_allStepIn Post 45 [(0, .ref 85), (1, .int x1), (2, .int x2), (3, .int x3)] [] h) ∧ (¬ x3 < 0 → td_J G d mX10_allStepIn Post 19 [(0, .ref 85), (1, .int x1), (2, .int x2), (3, .int x3)] [.int x3, .ref 85] h)) : td_J G d mX10_allStepIn Post 13 [(0, .ref 85), (1, .int x1), (2, .int x2), (3, .int x3)] [] h := by
  refine td_iload_n 3 dX10_allStepIn_13 rfl ?_
  obtain ⟨Kt, Kf⟩ := K
  refine td_if_lt (tgt := 45) dX10_allStepIn_14 (by decide) (fun q => ?_) (fun q => ?_)
  · have K := Kt q
    exact K
  · have K := Kf q
    refine td_aload_n 0 dX10_allStepIn_17 rfl ?_
    refine td_iload_n 3 dX10_allStepIn_18 rfl ?_
    exact K
set_option maxRecDepth 20000 in
theorem rX10_allStepIn_22 {G : td_G} {d : Nat} {Post : td_P} {x1 x2 x3 s0 : Int32} {h : td_H} (K : (s0 < 0 → td_J G d mX10_allStepIn Post 45 [(0, .ref 85), (1, .int x1), (2, .int x2), (3, .int x3)] [] h) ∧ (¬ s0 < 0 → td_J G d mX10_allStepIn Post 29 [(0, .ref 85), (1, .int x1), (2, .int x2), (3, .int x3)] [.int x3, .ref 85, .int x3, .ref 85] h)) : td_J G d mX10_allStepIn Post 22 [(0, .ref 85), (1, .int x1), (2, .int x2), (3, .int x3)] [.int s0] h := by
  obtain ⟨Kt, Kf⟩ := K
  refine td_if_lt (tgt := 45) dX10_allStepIn_22 (by decide) (fun q => ?_) (fun q => ?_)
  · have K := Kt q
    exact K
  · have K := Kf q
    refine td_aload_n 0 dX10_allStepIn_25 rfl ?_
    refine td_iload_n 3 dX10_allStepIn_26 rfl ?_
    refine td_aload_n 0 dX10_allStepIn_27 rfl ?_
    refine td_iload_n 3 dX10_allStepIn_28 rfl ?_
    exact K
set_option maxRecDepth 20000 in
theorem rX10_allStepIn_32 {G : td_G} {d : Nat} {Post : td_P} {a0 : Nat} {x1 x2 x3 s1 s2 : Int32} {h : td_H} (ha0 : td_kd a0 = 10) (K : td_J G d mX10_allStepIn Post 33 [(0, .ref 85), (1, .int x1), (2, .int x2), (3, .int x3)] [.int x1, .int s2, .int s1, .ref a0] h) : td_J G d mX10_allStepIn Post 32 [(0, .ref 85), (1, .int x1), (2, .int x2), (3, .int x3)] [.int s2, .int s1, .ref a0] h := by
  refine td_iload_n 1 dX10_allStepIn_32 rfl ?_
  exact K
set_option maxRecDepth 20000 in
theorem rX10_allStepIn_36 {G : td_G} {d : Nat} {Post : td_P} {x1 x2 x3 : Int32} {h : td_H} (K : td_J G d mX10_allStepIn Post 38 [(0, .ref 85), (1, .int x1), (2, .int x2), (3, .int x3)] [.int x2, .ref 85] h) : td_J G d mX10_allStepIn Post 36 [(0, .ref 85), (1, .int x1), (2, .int x2), (3, .int x3)] [] h := by
  refine td_aload_n 0 dX10_allStepIn_36 rfl ?_
  refine td_iload_n 2 dX10_allStepIn_37 rfl ?_
  exact K
set_option maxRecDepth 20000 in
theorem rX10_allStepIn_41 {G : td_G} {d : Nat} {Post : td_P} {x1 x2 x3 s0 : Int32} {h : td_H} (K : td_J G d mX10_allStepIn Post 13 [(0, .ref 85), (1, .int x1), (2, .int x2), (3, .int s0)] [] h) : td_J G d mX10_allStepIn Post 41 [(0, .ref 85), (1, .int x1), (2, .int x2), (3, .int x3)] [.int s0] h := by
  refine td_istore_n (lv2 := [(0, .ref 85), (1, .int x1), (2, .int x2), (3, .int s0)]) dX10_allStepIn_41 (by decide) rfl ?_
  refine td_goto (tgt := 13) dX10_allStepIn_42 (by decide) ?_
  exact K
set_option maxRecDepth 20000 in
theorem rX10_allStepIn_45 {G : td_G} {d : Nat} {Post : td_P} {x1 x2 x3 : Int32} {h : td_H} (K : td_J G d mX10_allStepIn Post 2 [(0, .ref 85), (1, .int x1), (2, .int (x2 + 1))] [] h) : td_J G d mX10_allStepIn Post 45 [(0, .ref 85), (1, .int x1), (2, .int x2), (3, .int x3)] [] h := by
  refine td_iinc 2 (v := x2 + 1) (lv2 := [(0, .ref 85), (1, .int x1), (2, .int (x2 + 1)), (3, .int x3)]) dX10_allStepIn_45 rfl (congrArg (x2 + ·) (by decide)) (by decide) rfl ?_
  refine td_goto (tgt := 2) dX10_allStepIn_48 (by decide) ?_
  refine td_drop [0, 1, 2] rfl ?_
  exact K
set_option maxRecDepth 20000 in
theorem rX10_goFolded_0 {G : td_G} {d : Nat} {Post : td_P} {x1 : Int32} {h : td_H} (K : td_J G d mX10_goFolded Post 12 [(0, .ref 85), (1, .int x1), (2, .int 0)] [] (hu (hu h 85 18 0) 85 19 0)) : td_J G d mX10_goFolded Post 0 [(0, .ref 85), (1, .int x1)] [] h := by
  refine td_aload_n 0 dX10_goFolded_0 rfl ?_
  refine td_iconst (v := 0) dX10_goFolded_1 (by decide) ?_
  refine pf_X10_173 rfl kp_85 dX10_goFolded_2 ?_
  refine td_aload_n 0 dX10_goFolded_5 rfl ?_
  refine td_iconst (v := 0) dX10_goFolded_6 (by decide) ?_
  refine pf_X10_170 rfl kp_85 dX10_goFolded_7 ?_
  refine td_iconst (v := 0) dX10_goFolded_10 (by decide) ?_
  refine td_istore_n (lv2 := [(0, .ref 85), (1, .int x1), (2, .int 0)]) dX10_goFolded_11 (by decide) rfl ?_
  exact K
set_option maxRecDepth 20000 in
theorem rX10_goFolded_12 {G : td_G} {d : Nat} {Post : td_P} {x1 x2 : Int32} {h : td_H} (K : ((h 86 9) ≤ x2 → td_J G d mX10_goFolded Post 47 [(0, .ref 85), (1, .int x1), (2, .int 0)] [] h) ∧ (¬ (h 86 9) ≤ x2 → (vp_in x2 12 ∧ ((¬ (h 91 (ix x2)) = 2 → td_J G d mX10_goFolded Post 39 [(0, .ref 85), (1, .int x1), (2, .int x2)] [] h) ∧ ((h 91 (ix x2)) = 2 → td_J G d mX10_goFolded Post 36 [(0, .ref 85), (1, .int x1), (2, .int x2)] [.int x1, .int x2, .ref 85] h))))) : td_J G d mX10_goFolded Post 12 [(0, .ref 85), (1, .int x1), (2, .int x2)] [] h := by
  refine td_iload_n 2 dX10_goFolded_12 rfl ?_
  refine td_aload_n 0 dX10_goFolded_13 rfl ?_
  refine gf_X10_7 rfl kp_85 dX10_goFolded_14 ?_
  refine td_bipush (v := 9) dX10_goFolded_17 (by decide) ?_
  refine td_ialdc (j := 9) kp_86 (by decide) (by unfold vp_in; decide) (by decide) dX10_goFolded_19 ?_
  obtain ⟨Kt, Kf⟩ := K
  refine td_icmp_ge (tgt := 45) dX10_goFolded_20 (by decide) (fun q => ?_) (fun q => ?_)
  · have K := Kt q
    refine td_iconst (v := 0) dX10_goFolded_45 (by decide) ?_
    refine td_istore_n (lv2 := [(0, .ref 85), (1, .int x1), (2, .int 0)]) dX10_goFolded_46 (by decide) rfl ?_
    exact K
  · have K := Kf q
    refine td_aload_n 0 dX10_goFolded_23 rfl ?_
    refine gf_X10_25 rfl kp_85 dX10_goFolded_24 ?_
    refine td_iload_n 2 dX10_goFolded_27 rfl ?_
    obtain ⟨e28, K⟩ := K
    refine td_ialdc (j := (ix x2)) kp_91 (by decide) e28 rfl dX10_goFolded_28 ?_
    refine td_iconst (v := 2) dX10_goFolded_29 (by decide) ?_
    obtain ⟨Kt, Kf⟩ := K
    refine td_icmp_ne (tgt := 39) dX10_goFolded_30 (by decide) (fun q => ?_) (fun q => ?_)
    · have K := Kt q
      exact K
    · have K := Kf q
      refine td_aload_n 0 dX10_goFolded_33 rfl ?_
      refine td_iload_n 2 dX10_goFolded_34 rfl ?_
      refine td_iload_n 1 dX10_goFolded_35 rfl ?_
      exact K
set_option maxRecDepth 20000 in
theorem rX10_goFolded_39 {G : td_G} {d : Nat} {Post : td_P} {x1 x2 : Int32} {h : td_H} (K : td_J G d mX10_goFolded Post 12 [(0, .ref 85), (1, .int x1), (2, .int (x2 + 1))] [] h) : td_J G d mX10_goFolded Post 39 [(0, .ref 85), (1, .int x1), (2, .int x2)] [] h := by
  refine td_iinc 2 (v := x2 + 1) (lv2 := [(0, .ref 85), (1, .int x1), (2, .int (x2 + 1))]) dX10_goFolded_39 rfl (congrArg (x2 + ·) (by decide)) (by decide) rfl ?_
  refine td_goto (tgt := 12) dX10_goFolded_42 (by decide) ?_
  exact K
set_option maxRecDepth 20000 in
theorem rX10_goFolded_47 {G : td_G} {d : Nat} {Post : td_P} {x1 x2 : Int32} {h : td_H} (K : (4 ≤ x2 → (Post none h)) ∧ (¬ 4 ≤ x2 → td_J G d mX10_goFolded Post 56 [(0, .ref 85), (1, .int x1), (2, .int x2)] [.int (x2 / 2), .ref 85] h)) : td_J G d mX10_goFolded Post 47 [(0, .ref 85), (1, .int x1), (2, .int x2)] [] h := by
  refine td_iload_n 2 dX10_goFolded_47 rfl ?_
  refine td_iconst (v := 4) dX10_goFolded_48 (by decide) ?_
  obtain ⟨Kt, Kf⟩ := K
  refine td_icmp_ge (tgt := 90) dX10_goFolded_49 (by decide) (fun q => ?_) (fun q => ?_)
  · have K := Kt q
    exact td_return rfl dX10_goFolded_90 K
  · have K := Kf q
    refine td_aload_n 0 dX10_goFolded_52 rfl ?_
    refine td_iload_n 2 dX10_goFolded_53 rfl ?_
    refine td_iconst (v := 2) dX10_goFolded_54 (by decide) ?_
    refine td_idiv dX10_goFolded_55 (by decide) ?_
    exact K
set_option maxRecDepth 20000 in
theorem rX10_goFolded_59 {G : td_G} {d : Nat} {Post : td_P} {x1 x2 s0 : Int32} {h : td_H} (K : (s0 < 0 → td_J G d mX10_goFolded Post 84 [(0, .ref 85), (1, .int x1), (2, .int x2), (3, .int s0)] [] h) ∧ (¬ s0 < 0 → (vp_in s0 12 ∧ (vp_in s0 12 ∧ (td_J G d mX10_goFolded Post 81 [(0, .ref 85), (1, .int x1), (2, .int x2), (3, .int s0)] [.int x1, .int s0, .ref 85] (hu h 95 (ix s0) (x1 - (h 88 (ix s0))))))))) : td_J G d mX10_goFolded Post 59 [(0, .ref 85), (1, .int x1), (2, .int x2)] [.int s0] h := by
  refine td_istore_n (lv2 := [(0, .ref 85), (1, .int x1), (2, .int x2), (3, .int s0)]) dX10_goFolded_59 (by decide) rfl ?_
  refine td_iload_n 3 dX10_goFolded_60 rfl ?_
  obtain ⟨Kt, Kf⟩ := K
  refine td_if_lt (tgt := 84) dX10_goFolded_61 (by decide) (fun q => ?_) (fun q => ?_)
  · have K := Kt q
    exact K
  · have K := Kf q
    refine td_aload_n 0 dX10_goFolded_64 rfl ?_
    refine gf_X10_37 rfl kp_85 dX10_goFolded_65 ?_
    refine td_iload_n 3 dX10_goFolded_68 rfl ?_
    refine td_iload_n 1 dX10_goFolded_69 rfl ?_
    refine td_aload_n 0 dX10_goFolded_70 rfl ?_
    refine gf_X10_16 rfl kp_85 dX10_goFolded_71 ?_
    refine td_iload_n 3 dX10_goFolded_74 rfl ?_
    obtain ⟨e75, K⟩ := K
    refine td_ialdc (j := (ix s0)) kp_88 (by decide) e75 rfl dX10_goFolded_75 ?_
    refine td_isub dX10_goFolded_76 ?_
    obtain ⟨e77, K⟩ := K
    refine td_iastc (j := (ix s0)) kp_95 (by decide) e77 rfl dX10_goFolded_77 ?_
    refine td_aload_n 0 dX10_goFolded_78 rfl ?_
    refine td_iload_n 3 dX10_goFolded_79 rfl ?_
    refine td_iload_n 1 dX10_goFolded_80 rfl ?_
    exact K
set_option maxRecDepth 20000 in
theorem rX10_goFolded_84 {G : td_G} {d : Nat} {Post : td_P} {x1 x2 x3 : Int32} {h : td_H} (K : td_J G d mX10_goFolded Post 47 [(0, .ref 85), (1, .int x1), (2, .int (x2 + 1))] [] h) : td_J G d mX10_goFolded Post 84 [(0, .ref 85), (1, .int x1), (2, .int x2), (3, .int x3)] [] h := by
  refine td_iinc 2 (v := x2 + 1) (lv2 := [(0, .ref 85), (1, .int x1), (2, .int (x2 + 1)), (3, .int x3)]) dX10_goFolded_84 rfl (congrArg (x2 + ·) (by decide)) (by decide) rfl ?_
  refine td_goto (tgt := 47) dX10_goFolded_87 (by decide) ?_
  refine td_drop [0, 1, 2] rfl ?_
  exact K
set_option maxRecDepth 20000 in
theorem rX10_goTo_0 {G : td_G} {d : Nat} {Post : td_P} {x1 : Int32} {h : td_H} (K : td_J G d mX10_goTo Post 32 [(0, .ref 85), (1, .int x1), (2, .int 0)] [] (hu (hu (hu (hu (hu (hu h 85 17 0) 85 18 0) 85 19 0) 85 20 0) 85 21 0) 85 22 0)) : td_J G d mX10_goTo Post 0 [(0, .ref 85), (1, .int x1)] [] h := by
  refine td_aload_n 0 dX10_goTo_0 rfl ?_
  refine td_iconst (v := 0) dX10_goTo_1 (by decide) ?_
  refine pf_X10_176 rfl kp_85 dX10_goTo_2 ?_
  refine td_aload_n 0 dX10_goTo_5 rfl ?_
  refine td_iconst (v := 0) dX10_goTo_6 (by decide) ?_
  refine pf_X10_173 rfl kp_85 dX10_goTo_7 ?_
  refine td_aload_n 0 dX10_goTo_10 rfl ?_
  refine td_iconst (v := 0) dX10_goTo_11 (by decide) ?_
  refine pf_X10_170 rfl kp_85 dX10_goTo_12 ?_
  refine td_aload_n 0 dX10_goTo_15 rfl ?_
  refine td_iconst (v := 0) dX10_goTo_16 (by decide) ?_
  refine pf_X10_186 rfl kp_85 dX10_goTo_17 ?_
  refine td_aload_n 0 dX10_goTo_20 rfl ?_
  refine td_iconst (v := 0) dX10_goTo_21 (by decide) ?_
  refine pf_X10_179 rfl kp_85 dX10_goTo_22 ?_
  refine td_aload_n 0 dX10_goTo_25 rfl ?_
  refine td_iconst (v := 0) dX10_goTo_26 (by decide) ?_
  refine pf_X10_204 rfl kp_85 dX10_goTo_27 ?_
  refine td_iconst (v := 0) dX10_goTo_30 (by decide) ?_
  refine td_istore_n (lv2 := [(0, .ref 85), (1, .int x1), (2, .int 0)]) dX10_goTo_31 (by decide) rfl ?_
  exact K
set_option maxRecDepth 20000 in
theorem rX10_goTo_32 {G : td_G} {d : Nat} {Post : td_P} {x1 x2 : Int32} {h : td_H} (K : (12 ≤ x2 → td_J G d mX10_goTo Post 105 [(0, .ref 85), (1, .int x1), (2, .int 0)] [] h) ∧ (¬ 12 ≤ x2 → (vp_in x2 12 ∧ (vp_in x2 12 ∧ (vp_in x2 12 ∧ (vp_in x2 12 ∧ (vp_in x2 12 ∧ (vp_in x2 12 ∧ (vp_in x2 12 ∧ (vp_in x2 12 ∧ (td_J G d mX10_goTo Post 32 [(0, .ref 85), (1, .int x1), (2, .int (x2 + 1))] [] (hu (hu (hu (hu (hu (hu (hu (hu h 91 (ix x2) 0) 92 (ix x2) (-4)) 93 (ix x2) (-4)) 94 (ix x2) (-4)) 95 (ix x2) 0) 96 (ix x2) 0) 97 (ix x2) 0) 98 (ix x2) 0)))))))))))) : td_J G d mX10_goTo Post 32 [(0, .ref 85), (1, .int x1), (2, .int x2)] [] h := by
  refine td_iload_n 2 dX10_goTo_32 rfl ?_
  refine td_bipush (v := 12) dX10_goTo_33 (by decide) ?_
  obtain ⟨Kt, Kf⟩ := K
  refine td_icmp_ge (tgt := 103) dX10_goTo_35 (by decide) (fun q => ?_) (fun q => ?_)
  · have K := Kt q
    refine td_iconst (v := 0) dX10_goTo_103 (by decide) ?_
    refine td_istore_n (lv2 := [(0, .ref 85), (1, .int x1), (2, .int 0)]) dX10_goTo_104 (by decide) rfl ?_
    exact K
  · have K := Kf q
    refine td_aload_n 0 dX10_goTo_38 rfl ?_
    refine gf_X10_25 rfl kp_85 dX10_goTo_39 ?_
    refine td_iload_n 2 dX10_goTo_42 rfl ?_
    refine td_iconst (v := 0) dX10_goTo_43 (by decide) ?_
    obtain ⟨e44, K⟩ := K
    refine td_iastc (j := (ix x2)) kp_91 (by decide) e44 rfl dX10_goTo_44 ?_
    refine td_aload_n 0 dX10_goTo_45 rfl ?_
    refine gf_X10_28 rfl kp_85 dX10_goTo_46 ?_
    refine td_iload_n 2 dX10_goTo_49 rfl ?_
    refine td_bipush (v := (-4)) dX10_goTo_50 (by decide) ?_
    obtain ⟨e52, K⟩ := K
    refine td_iastc (j := (ix x2)) kp_92 (by decide) e52 rfl dX10_goTo_52 ?_
    refine td_aload_n 0 dX10_goTo_53 rfl ?_
    refine gf_X10_31 rfl kp_85 dX10_goTo_54 ?_
    refine td_iload_n 2 dX10_goTo_57 rfl ?_
    refine td_bipush (v := (-4)) dX10_goTo_58 (by decide) ?_
    obtain ⟨e60, K⟩ := K
    refine td_iastc (j := (ix x2)) kp_93 (by decide) e60 rfl dX10_goTo_60 ?_
    refine td_aload_n 0 dX10_goTo_61 rfl ?_
    refine gf_X10_34 rfl kp_85 dX10_goTo_62 ?_
    refine td_iload_n 2 dX10_goTo_65 rfl ?_
    refine td_bipush (v := (-4)) dX10_goTo_66 (by decide) ?_
    obtain ⟨e68, K⟩ := K
    refine td_iastc (j := (ix x2)) kp_94 (by decide) e68 rfl dX10_goTo_68 ?_
    refine td_aload_n 0 dX10_goTo_69 rfl ?_
    refine gf_X10_37 rfl kp_85 dX10_goTo_70 ?_
    refine td_iload_n 2 dX10_goTo_73 rfl ?_
    refine td_iconst (v := 0) dX10_goTo_74 (by decide) ?_
    obtain ⟨e75, K⟩ := K
    refine td_iastc (j := (ix x2)) kp_95 (by decide) e75 rfl dX10_goTo_75 ?_
    refine td_aload_n 0 dX10_goTo_76 rfl ?_
    refine gf_X10_40 rfl kp_85 dX10_goTo_77 ?_
    refine td_iload_n 2 dX10_goTo_80 rfl ?_
    refine td_iconst (v := 0) dX10_goTo_81 (by decide) ?_
    obtain ⟨e82, K⟩ := K
    refine td_iastc (j := (ix x2)) kp_96 (by decide) e82 rfl dX10_goTo_82 ?_
    refine td_aload_n 0 dX10_goTo_83 rfl ?_
    refine gf_X10_43 rfl kp_85 dX10_goTo_84 ?_
    refine td_iload_n 2 dX10_goTo_87 rfl ?_
    refine td_iconst (v := 0) dX10_goTo_88 (by decide) ?_
    obtain ⟨e89, K⟩ := K
    refine td_iastc (j := (ix x2)) kp_97 (by decide) e89 rfl dX10_goTo_89 ?_
    refine td_aload_n 0 dX10_goTo_90 rfl ?_
    refine gf_X10_46 rfl kp_85 dX10_goTo_91 ?_
    refine td_iload_n 2 dX10_goTo_94 rfl ?_
    refine td_iconst (v := 0) dX10_goTo_95 (by decide) ?_
    obtain ⟨e96, K⟩ := K
    refine td_iastc (j := (ix x2)) kp_98 (by decide) e96 rfl dX10_goTo_96 ?_
    refine td_iinc 2 (v := x2 + 1) (lv2 := [(0, .ref 85), (1, .int x1), (2, .int (x2 + 1))]) dX10_goTo_97 rfl (congrArg (x2 + ·) (by decide)) (by decide) rfl ?_
    refine td_goto (tgt := 32) dX10_goTo_100 (by decide) ?_
    exact K
set_option maxRecDepth 20000 in
theorem rX10_goTo_105 {G : td_G} {d : Nat} {Post : td_P} {x1 x2 : Int32} {h : td_H} (K : (x1 < x2 → td_J G d mX10_goTo Post 255 [(0, .ref 85), (1, .int x1), (2, .int 0)] [] h) ∧ (¬ x1 < x2 → td_J G d mX10_goTo Post 112 [(0, .ref 85), (1, .int x1), (2, .int x2), (3, .int 0)] [] h)) : td_J G d mX10_goTo Post 105 [(0, .ref 85), (1, .int x1), (2, .int x2)] [] h := by
  refine td_iload_n 2 dX10_goTo_105 rfl ?_
  refine td_iload_n 1 dX10_goTo_106 rfl ?_
  obtain ⟨Kt, Kf⟩ := K
  refine td_icmp_gt (tgt := 253) dX10_goTo_107 (by decide) (fun q => ?_) (fun q => ?_)
  · have K := Kt q
    refine td_iconst (v := 0) dX10_goTo_253 (by decide) ?_
    refine td_istore_n (lv2 := [(0, .ref 85), (1, .int x1), (2, .int 0)]) dX10_goTo_254 (by decide) rfl ?_
    exact K
  · have K := Kf q
    refine td_iconst (v := 0) dX10_goTo_110 (by decide) ?_
    refine td_istore_n (lv2 := [(0, .ref 85), (1, .int x1), (2, .int x2), (3, .int 0)]) dX10_goTo_111 (by decide) rfl ?_
    exact K
set_option maxRecDepth 20000 in
theorem rX10_goTo_112 {G : td_G} {d : Nat} {Post : td_P} {x1 x2 x3 : Int32} {h : td_H} (K : ((h 86 9) ≤ x3 → ((x2 < (h 87 8) → td_J G d mX10_goTo Post 183 [(0, .ref 85), (1, .int x1), (2, .int x2), (3, .int x3)] [.ref 85] h) ∧ (¬ x2 < (h 87 8) → td_J G d mX10_goTo Post 176 [(0, .ref 85), (1, .int x1), (2, .int x2), (3, .int x3)] [.int x2, .ref 85] h))) ∧ (¬ (h 86 9) ≤ x3 → (vp_in x3 12 ∧ ((¬ (h 88 (ix x3)) = x2 → td_J G d mX10_goTo Post 150 [(0, .ref 85), (1, .int x1), (2, .int x2), (3, .int x3)] [.int x3, .ref 91] h) ∧ ((h 88 (ix x3)) = x2 → ((x3 = (h 85 2) → td_J G d mX10_goTo Post 150 [(0, .ref 85), (1, .int x1), (2, .int x2), (3, .int x3)] [.int x3, .ref 91] h) ∧ (¬ x3 = (h 85 2) → td_J G d mX10_goTo Post 156 [(0, .ref 85), (1, .int x1), (2, .int x2), (3, .int x3)] [.int 1, .int x3, .ref 91] h))))))) : td_J G d mX10_goTo Post 112 [(0, .ref 85), (1, .int x1), (2, .int x2), (3, .int x3)] [] h := by
  refine td_iload_n 3 dX10_goTo_112 rfl ?_
  refine td_aload_n 0 dX10_goTo_113 rfl ?_
  refine gf_X10_7 rfl kp_85 dX10_goTo_114 ?_
  refine td_bipush (v := 9) dX10_goTo_117 (by decide) ?_
  refine td_ialdc (j := 9) kp_86 (by decide) (by unfold vp_in; decide) (by decide) dX10_goTo_119 ?_
  obtain ⟨Kt, Kf⟩ := K
  refine td_icmp_ge (tgt := 163) dX10_goTo_120 (by decide) (fun q => ?_) (fun q => ?_)
  · have K := Kt q
    refine td_iload_n 2 dX10_goTo_163 rfl ?_
    refine td_aload_n 0 dX10_goTo_164 rfl ?_
    refine gf_X10_13 rfl kp_85 dX10_goTo_165 ?_
    refine td_bipush (v := 8) dX10_goTo_168 (by decide) ?_
    refine td_ialdc (j := 8) kp_87 (by decide) (by unfold vp_in; decide) (by decide) dX10_goTo_170 ?_
    obtain ⟨Kt, Kf⟩ := K
    refine td_icmp_lt (tgt := 182) dX10_goTo_171 (by decide) (fun q => ?_) (fun q => ?_)
    · have K := Kt q
      refine td_aload_n 0 dX10_goTo_182 rfl ?_
      exact K
    · have K := Kf q
      refine td_aload_n 0 dX10_goTo_174 rfl ?_
      refine td_iload_n 2 dX10_goTo_175 rfl ?_
      exact K
  · have K := Kf q
    refine td_aload_n 0 dX10_goTo_123 rfl ?_
    refine gf_X10_25 rfl kp_85 dX10_goTo_124 ?_
    refine td_iload_n 3 dX10_goTo_127 rfl ?_
    refine td_aload_n 0 dX10_goTo_128 rfl ?_
    refine gf_X10_16 rfl kp_85 dX10_goTo_129 ?_
    refine td_iload_n 3 dX10_goTo_132 rfl ?_
    obtain ⟨e133, K⟩ := K
    refine td_ialdc (j := (ix x3)) kp_88 (by decide) e133 rfl dX10_goTo_133 ?_
    refine td_iload_n 2 dX10_goTo_134 rfl ?_
    obtain ⟨Kt, Kf⟩ := K
    refine td_icmp_ne (tgt := 150) dX10_goTo_135 (by decide) (fun q => ?_) (fun q => ?_)
    · have K := Kt q
      exact K
    · have K := Kf q
      refine td_iload_n 3 dX10_goTo_138 rfl ?_
      refine td_aload_n 0 dX10_goTo_139 rfl ?_
      refine gf_X10_90 rfl kp_85 dX10_goTo_140 ?_
      obtain ⟨Kt, Kf⟩ := K
      refine td_icmp_eq (tgt := 150) dX10_goTo_143 (by decide) (fun q => ?_) (fun q => ?_)
      · have K := Kt q
        exact K
      · have K := Kf q
        refine td_iconst (v := 1) dX10_goTo_146 (by decide) ?_
        refine td_goto (tgt := 156) dX10_goTo_147 (by decide) ?_
        exact K
set_option maxRecDepth 20000 in
theorem rX10_goTo_150 {G : td_G} {d : Nat} {Post : td_P} {a0 na0 : Nat} {x1 x2 x3 s1 : Int32} {h : td_H} (ha0 : td_kd a0 = 100 + na0) (ga0 : na0 ≠ 899) (K : vp_in x3 12 ∧ (td_J G d mX10_goTo Post 156 [(0, .ref 85), (1, .int x1), (2, .int x2), (3, .int x3)] [.int (h 91 (ix x3)), .int s1, .ref a0] h)) : td_J G d mX10_goTo Post 150 [(0, .ref 85), (1, .int x1), (2, .int x2), (3, .int x3)] [.int s1, .ref a0] h := by
  refine td_aload_n 0 dX10_goTo_150 rfl ?_
  refine gf_X10_25 rfl kp_85 dX10_goTo_151 ?_
  refine td_iload_n 3 dX10_goTo_154 rfl ?_
  obtain ⟨e155, K⟩ := K
  refine td_ialdc (j := (ix x3)) kp_91 (by decide) e155 rfl dX10_goTo_155 ?_
  exact K
set_option maxRecDepth 20000 in
theorem rX10_goTo_156 {G : td_G} {d : Nat} {Post : td_P} {a0 na0 : Nat} {x1 x2 x3 s1 s2 : Int32} {h : td_H} (ha0 : td_kd a0 = 100 + na0) (ga0 : na0 ≠ 899) (K : vp_in s1 na0 ∧ (td_J G d mX10_goTo Post 112 [(0, .ref 85), (1, .int x1), (2, .int x2), (3, .int (x3 + 1))] [] (hu h a0 (ix s1) s2))) : td_J G d mX10_goTo Post 156 [(0, .ref 85), (1, .int x1), (2, .int x2), (3, .int x3)] [.int s2, .int s1, .ref a0] h := by
  obtain ⟨e156, K⟩ := K
  refine td_iastc (j := (ix s1)) ha0 ga0 e156 rfl dX10_goTo_156 ?_
  refine td_iinc 3 (v := x3 + 1) (lv2 := [(0, .ref 85), (1, .int x1), (2, .int x2), (3, .int (x3 + 1))]) dX10_goTo_157 rfl (congrArg (x3 + ·) (by decide)) (by decide) rfl ?_
  refine td_goto (tgt := 112) dX10_goTo_160 (by decide) ?_
  exact K
set_option maxRecDepth 20000 in
theorem rX10_goTo_179 {G : td_G} {d : Nat} {Post : td_P} {x1 x2 x3 : Int32} {h : td_H} (K : td_J G d mX10_goTo Post 212 [(0, .ref 85), (1, .int x1), (2, .int x2), (3, .int x3)] [] h) : td_J G d mX10_goTo Post 179 [(0, .ref 85), (1, .int x1), (2, .int x2), (3, .int x3)] [] h := by
  refine td_goto (tgt := 212) dX10_goTo_179 (by decide) ?_
  exact K
set_option maxRecDepth 20000 in
theorem rX10_goTo_186 {G : td_G} {d : Nat} {Post : td_P} {x1 x2 x3 : Int32} {h : td_H} (K : td_J G d mX10_goTo Post 188 [(0, .ref 85), (1, .int x1), (2, .int x2), (3, .int 0)] [] h) : td_J G d mX10_goTo Post 186 [(0, .ref 85), (1, .int x1), (2, .int x2), (3, .int x3)] [] h := by
  refine td_iconst (v := 0) dX10_goTo_186 (by decide) ?_
  refine td_istore_n (lv2 := [(0, .ref 85), (1, .int x1), (2, .int x2), (3, .int 0)]) dX10_goTo_187 (by decide) rfl ?_
  exact K
set_option maxRecDepth 20000 in
theorem rX10_goTo_188 {G : td_G} {d : Nat} {Post : td_P} {x1 x2 x3 : Int32} {h : td_H} (K : ((h 85 18) ≤ x3 → td_J G d mX10_goTo Post 209 [(0, .ref 85), (1, .int x1), (2, .int x2), (3, .int x3)] [.int x2, .ref 85] h) ∧ (¬ (h 85 18) ≤ x3 → td_J G d mX10_goTo Post 198 [(0, .ref 85), (1, .int x1), (2, .int x2), (3, .int x3)] [.int x2, .ref 85] h)) : td_J G d mX10_goTo Post 188 [(0, .ref 85), (1, .int x1), (2, .int x2), (3, .int x3)] [] h := by
  refine td_iload_n 3 dX10_goTo_188 rfl ?_
  refine td_aload_n 0 dX10_goTo_189 rfl ?_
  refine gf_X10_173 rfl kp_85 dX10_goTo_190 ?_
  obtain ⟨Kt, Kf⟩ := K
  refine td_icmp_ge (tgt := 207) dX10_goTo_193 (by decide) (fun q => ?_) (fun q => ?_)
  · have K := Kt q
    refine td_aload_n 0 dX10_goTo_207 rfl ?_
    refine td_iload_n 2 dX10_goTo_208 rfl ?_
    exact K
  · have K := Kf q
    refine td_aload_n 0 dX10_goTo_196 rfl ?_
    refine td_iload_n 2 dX10_goTo_197 rfl ?_
    exact K
set_option maxRecDepth 20000 in
theorem rX10_goTo_201 {G : td_G} {d : Nat} {Post : td_P} {x1 x2 x3 : Int32} {h : td_H} (K : td_J G d mX10_goTo Post 188 [(0, .ref 85), (1, .int x1), (2, .int x2), (3, .int (x3 + 1))] [] h) : td_J G d mX10_goTo Post 201 [(0, .ref 85), (1, .int x1), (2, .int x2), (3, .int x3)] [] h := by
  refine td_iinc 3 (v := x3 + 1) (lv2 := [(0, .ref 85), (1, .int x1), (2, .int x2), (3, .int (x3 + 1))]) dX10_goTo_201 rfl (congrArg (x3 + ·) (by decide)) (by decide) rfl ?_
  refine td_goto (tgt := 188) dX10_goTo_204 (by decide) ?_
  exact K
set_option maxRecDepth 20000 in
theorem rX10_goTo_212 {G : td_G} {d : Nat} {Post : td_P} {x1 x2 x3 : Int32} {h : td_H} (K : (¬ (h 85 18) = 0 → td_J G d mX10_goTo Post 242 [(0, .ref 85), (1, .int x1), (2, .int x2), (3, .int x3)] [.int (h 85 22), .ref 85] h) ∧ ((h 85 18) = 0 → td_J G d mX10_goTo Post 226 [(0, .ref 85), (1, .int x1), (2, .int x2), (3, .int x3)] [.int 1, .ref 85, .int (h 85 22), .ref 85] h)) : td_J G d mX10_goTo Post 212 [(0, .ref 85), (1, .int x1), (2, .int x2), (3, .int x3)] [] h := by
  refine td_aload_n 0 dX10_goTo_212 rfl ?_
  refine td_dup dX10_goTo_213 rfl ?_
  refine gf_X10_204 rfl kp_85 dX10_goTo_214 ?_
  refine td_aload_n 0 dX10_goTo_217 rfl ?_
  refine gf_X10_173 rfl kp_85 dX10_goTo_218 ?_
  obtain ⟨Kt, Kf⟩ := K
  refine td_if_ne (tgt := 242) dX10_goTo_221 (by decide) (fun q => ?_) (fun q => ?_)
  · have K := Kt q
    exact K
  · have K := Kf q
    refine td_aload_n 0 dX10_goTo_224 rfl ?_
    refine td_iconst (v := 1) dX10_goTo_225 (by decide) ?_
    exact K
set_option maxRecDepth 20000 in
theorem rX10_goTo_229 {G : td_G} {d : Nat} {Post : td_P} {a0 : Nat} {x1 x2 x3 s1 s2 : Int32} {h : td_H} (ha0 : td_kd a0 = 10) (K : td_J G d mX10_goTo Post 231 [(0, .ref 85), (1, .int x1), (2, .int x2), (3, .int x3)] [.int 2, .ref 85, .int s2, .int s1, .ref a0] h) : td_J G d mX10_goTo Post 229 [(0, .ref 85), (1, .int x1), (2, .int x2), (3, .int x3)] [.int s2, .int s1, .ref a0] h := by
  refine td_aload_n 0 dX10_goTo_229 rfl ?_
  refine td_iconst (v := 2) dX10_goTo_230 (by decide) ?_
  exact K
set_option maxRecDepth 20000 in
theorem rX10_goTo_234 {G : td_G} {d : Nat} {Post : td_P} {a0 : Nat} {x1 x2 x3 s1 s2 s3 : Int32} {h : td_H} (ha0 : td_kd a0 = 10) (K : ((s2 ||| s3) = 0 → td_J G d mX10_goTo Post 242 [(0, .ref 85), (1, .int x1), (2, .int x2), (3, .int x3)] [.int s1, .ref a0] h) ∧ (¬ (s2 ||| s3) = 0 → td_J G d mX10_goTo Post 243 [(0, .ref 85), (1, .int x1), (2, .int x2), (3, .int x3)] [.int 1, .int s1, .ref a0] h)) : td_J G d mX10_goTo Post 234 [(0, .ref 85), (1, .int x1), (2, .int x2), (3, .int x3)] [.int s3, .int s2, .int s1, .ref a0] h := by
  refine td_ior dX10_goTo_234 ?_
  obtain ⟨Kt, Kf⟩ := K
  refine td_if_eq (tgt := 242) dX10_goTo_235 (by decide) (fun q => ?_) (fun q => ?_)
  · have K := Kt q
    exact K
  · have K := Kf q
    refine td_iconst (v := 1) dX10_goTo_238 (by decide) ?_
    refine td_goto (tgt := 243) dX10_goTo_239 (by decide) ?_
    exact K
set_option maxRecDepth 20000 in
theorem rX10_goTo_242 {G : td_G} {d : Nat} {Post : td_P} {a0 : Nat} {x1 x2 x3 s1 : Int32} {h : td_H} (ha0 : td_kd a0 = 10) (K : td_J G d mX10_goTo Post 243 [(0, .ref 85), (1, .int x1), (2, .int x2), (3, .int x3)] [.int 0, .int s1, .ref a0] h) : td_J G d mX10_goTo Post 242 [(0, .ref 85), (1, .int x1), (2, .int x2), (3, .int x3)] [.int s1, .ref a0] h := by
  refine td_iconst (v := 0) dX10_goTo_242 (by decide) ?_
  exact K
set_option maxRecDepth 20000 in
theorem rX10_goTo_243 {G : td_G} {d : Nat} {Post : td_P} {a0 : Nat} {x1 x2 x3 s1 s2 : Int32} {h : td_H} (ha0 : td_kd a0 = 10) (K : td_J G d mX10_goTo Post 105 [(0, .ref 85), (1, .int x1), (2, .int (x2 + 1))] [] (hu h a0 22 (s1 + s2))) : td_J G d mX10_goTo Post 243 [(0, .ref 85), (1, .int x1), (2, .int x2), (3, .int x3)] [.int s2, .int s1, .ref a0] h := by
  refine td_iadd dX10_goTo_243 ?_
  refine pf_X10_204 rfl ha0 dX10_goTo_244 ?_
  refine td_iinc 2 (v := x2 + 1) (lv2 := [(0, .ref 85), (1, .int x1), (2, .int (x2 + 1)), (3, .int x3)]) dX10_goTo_247 rfl (congrArg (x2 + ·) (by decide)) (by decide) rfl ?_
  refine td_goto (tgt := 105) dX10_goTo_250 (by decide) ?_
  refine td_drop [0, 1, 2] rfl ?_
  exact K
set_option maxRecDepth 20000 in
theorem rX10_goTo_255 {G : td_G} {d : Nat} {Post : td_P} {x1 x2 : Int32} {h : td_H} (K : ((h 86 9) ≤ x2 → (Post none h)) ∧ (¬ (h 86 9) ≤ x2 → (vp_in x2 12 ∧ ((¬ (h 91 (ix x2)) = 1 → (vp_in x2 12 ∧ (td_J G d mX10_goTo Post 299 [(0, .ref 85), (1, .int x1), (2, .int x2)] [.int (h 95 (ix x2)), .int x2, .ref 95] h))) ∧ ((h 91 (ix x2)) = 1 → (vp_in x2 12 ∧ (td_J G d mX10_goTo Post 299 [(0, .ref 85), (1, .int x1), (2, .int x2)] [.int (120 - (h 88 (ix x2))), .int x2, .ref 95] h))))))) : td_J G d mX10_goTo Post 255 [(0, .ref 85), (1, .int x1), (2, .int x2)] [] h := by
  refine td_iload_n 2 dX10_goTo_255 rfl ?_
  refine td_aload_n 0 dX10_goTo_256 rfl ?_
  refine gf_X10_7 rfl kp_85 dX10_goTo_257 ?_
  refine td_bipush (v := 9) dX10_goTo_260 (by decide) ?_
  refine td_ialdc (j := 9) kp_86 (by decide) (by unfold vp_in; decide) (by decide) dX10_goTo_262 ?_
  obtain ⟨Kt, Kf⟩ := K
  refine td_icmp_ge (tgt := 306) dX10_goTo_263 (by decide) (fun q => ?_) (fun q => ?_)
  · have K := Kt q
    exact td_return rfl dX10_goTo_306 K
  · have K := Kf q
    refine td_aload_n 0 dX10_goTo_266 rfl ?_
    refine gf_X10_37 rfl kp_85 dX10_goTo_267 ?_
    refine td_iload_n 2 dX10_goTo_270 rfl ?_
    refine td_aload_n 0 dX10_goTo_271 rfl ?_
    refine gf_X10_25 rfl kp_85 dX10_goTo_272 ?_
    refine td_iload_n 2 dX10_goTo_275 rfl ?_
    obtain ⟨e276, K⟩ := K
    refine td_ialdc (j := (ix x2)) kp_91 (by decide) e276 rfl dX10_goTo_276 ?_
    refine td_iconst (v := 1) dX10_goTo_277 (by decide) ?_
    obtain ⟨Kt, Kf⟩ := K
    refine td_icmp_ne (tgt := 293) dX10_goTo_278 (by decide) (fun q => ?_) (fun q => ?_)
    · have K := Kt q
      refine td_aload_n 0 dX10_goTo_293 rfl ?_
      refine gf_X10_37 rfl kp_85 dX10_goTo_294 ?_
      refine td_iload_n 2 dX10_goTo_297 rfl ?_
      obtain ⟨e298, K⟩ := K
      refine td_ialdc (j := (ix x2)) kp_95 (by decide) e298 rfl dX10_goTo_298 ?_
      exact K
    · have K := Kf q
      refine td_bipush (v := 120) dX10_goTo_281 (by decide) ?_
      refine td_aload_n 0 dX10_goTo_283 rfl ?_
      refine gf_X10_16 rfl kp_85 dX10_goTo_284 ?_
      refine td_iload_n 2 dX10_goTo_287 rfl ?_
      obtain ⟨e288, K⟩ := K
      refine td_ialdc (j := (ix x2)) kp_88 (by decide) e288 rfl dX10_goTo_288 ?_
      refine td_isub dX10_goTo_289 ?_
      refine td_goto (tgt := 299) dX10_goTo_290 (by decide) ?_
      exact K
set_option maxRecDepth 20000 in
theorem rX10_goTo_299 {G : td_G} {d : Nat} {Post : td_P} {a0 na0 : Nat} {x1 x2 s1 s2 : Int32} {h : td_H} (ha0 : td_kd a0 = 100 + na0) (ga0 : na0 ≠ 899) (K : vp_in s1 na0 ∧ (td_J G d mX10_goTo Post 255 [(0, .ref 85), (1, .int x1), (2, .int (x2 + 1))] [] (hu h a0 (ix s1) s2))) : td_J G d mX10_goTo Post 299 [(0, .ref 85), (1, .int x1), (2, .int x2)] [.int s2, .int s1, .ref a0] h := by
  obtain ⟨e299, K⟩ := K
  refine td_iastc (j := (ix s1)) ha0 ga0 e299 rfl dX10_goTo_299 ?_
  refine td_iinc 2 (v := x2 + 1) (lv2 := [(0, .ref 85), (1, .int x1), (2, .int (x2 + 1))]) dX10_goTo_300 rfl (congrArg (x2 + ·) (by decide)) (by decide) rfl ?_
  refine td_goto (tgt := 255) dX10_goTo_303 (by decide) ?_
  exact K
set_option maxRecDepth 20000 in
theorem rX10_run_0 {G : td_G} {d : Nat} {Post : td_P} {h : td_H} (K : td_J G d mX10_run Post 3 [(0, .ref 85)] [.int 119, .ref 85] h) : td_J G d mX10_run Post 0 [(0, .ref 85)] [] h := by
  refine td_aload_n 0 dX10_run_0 rfl ?_
  refine td_bipush (v := 119) dX10_run_1 (by decide) ?_
  exact K
set_option maxRecDepth 20000 in
theorem rX10_run_6 {G : td_G} {d : Nat} {Post : td_P} {h : td_H} (K : Post none h) : td_J G d mX10_run Post 6 [(0, .ref 85)] [] h := by
  exact td_return rfl dX10_run_6 K
set_option maxRecDepth 20000 in
theorem rX10_lastThrough_0 {G : td_G} {d : Nat} {Post : td_P} {h : td_H} (K : td_J G d mX10_lastThrough Post 4 [(0, .ref 85), (1, .int 0), (2, .int 0)] [] h) : td_J G d mX10_lastThrough Post 0 [(0, .ref 85)] [] h := by
  refine td_iconst (v := 0) dX10_lastThrough_0 (by decide) ?_
  refine td_istore_n (lv2 := [(0, .ref 85), (1, .int 0)]) dX10_lastThrough_1 (by decide) rfl ?_
  refine td_iconst (v := 0) dX10_lastThrough_2 (by decide) ?_
  refine td_istore_n (lv2 := [(0, .ref 85), (1, .int 0), (2, .int 0)]) dX10_lastThrough_3 (by decide) rfl ?_
  exact K
set_option maxRecDepth 20000 in
theorem rX10_lastThrough_4 {G : td_G} {d : Nat} {Post : td_P} {x1 x2 : Int32} {h : td_H} (K : ((h 86 9) ≤ x2 → (Post (some (.int x1)) h)) ∧ (¬ (h 86 9) ≤ x2 → ((¬ x2 = (h 85 2) → (vp_in x2 12 ∧ ((0 ≤ (h 94 (ix x2)) → (vp_in x2 12 ∧ (td_J G d mX10_lastThrough Post 47 [(0, .ref 85), (1, .int x1), (2, .int x2)] [.int (h 94 (ix x2))] h))) ∧ (¬ 0 ≤ (h 94 (ix x2)) → td_J G d mX10_lastThrough Post 47 [(0, .ref 85), (1, .int x1), (2, .int x2)] [.int 120] h)))) ∧ (x2 = (h 85 2) → td_J G d mX10_lastThrough Post 47 [(0, .ref 85), (1, .int x1), (2, .int x2)] [.int 0] h)))) : td_J G d mX10_lastThrough Post 4 [(0, .ref 85), (1, .int x1), (2, .int x2)] [] h := by
  refine td_iload_n 2 dX10_lastThrough_4 rfl ?_
  refine td_aload_n 0 dX10_lastThrough_5 rfl ?_
  refine gf_X10_7 rfl kp_85 dX10_lastThrough_6 ?_
  refine td_bipush (v := 9) dX10_lastThrough_9 (by decide) ?_
  refine td_ialdc (j := 9) kp_86 (by decide) (by unfold vp_in; decide) (by decide) dX10_lastThrough_11 ?_
  obtain ⟨Kt, Kf⟩ := K
  refine td_icmp_ge (tgt := 65) dX10_lastThrough_12 (by decide) (fun q => ?_) (fun q => ?_)
  · have K := Kt q
    refine td_iload_n 1 dX10_lastThrough_65 rfl ?_
    exact td_ireturn rfl dX10_lastThrough_66 K
  · have K := Kf q
    refine td_iload_n 2 dX10_lastThrough_15 rfl ?_
    refine td_aload_n 0 dX10_lastThrough_16 rfl ?_
    refine gf_X10_90 rfl kp_85 dX10_lastThrough_17 ?_
    obtain ⟨Kt, Kf⟩ := K
    refine td_icmp_ne (tgt := 27) dX10_lastThrough_20 (by decide) (fun q => ?_) (fun q => ?_)
    · have K := Kt q
      refine td_aload_n 0 dX10_lastThrough_27 rfl ?_
      refine gf_X10_34 rfl kp_85 dX10_lastThrough_28 ?_
      refine td_iload_n 2 dX10_lastThrough_31 rfl ?_
      obtain ⟨e32, K⟩ := K
      refine td_ialdc (j := (ix x2)) kp_94 (by decide) e32 rfl dX10_lastThrough_32 ?_
      obtain ⟨Kt, Kf⟩ := K
      refine td_if_ge (tgt := 41) dX10_lastThrough_33 (by decide) (fun q => ?_) (fun q => ?_)
      · have K := Kt q
        refine td_aload_n 0 dX10_lastThrough_41 rfl ?_
        refine gf_X10_34 rfl kp_85 dX10_lastThrough_42 ?_
        refine td_iload_n 2 dX10_lastThrough_45 rfl ?_
        obtain ⟨e46, K⟩ := K
        refine td_ialdc (j := (ix x2)) kp_94 (by decide) e46 rfl dX10_lastThrough_46 ?_
        exact K
      · have K := Kf q
        refine td_bipush (v := 120) dX10_lastThrough_36 (by decide) ?_
        refine td_goto (tgt := 47) dX10_lastThrough_38 (by decide) ?_
        exact K
    · have K := Kf q
      refine td_iconst (v := 0) dX10_lastThrough_23 (by decide) ?_
      refine td_goto (tgt := 47) dX10_lastThrough_24 (by decide) ?_
      exact K
set_option maxRecDepth 20000 in
theorem rX10_lastThrough_47 {G : td_G} {d : Nat} {Post : td_P} {x1 x2 s0 : Int32} {h : td_H} (K : (s0 ≤ x1 → td_J G d mX10_lastThrough Post 58 [(0, .ref 85), (1, .int x1), (2, .int x2), (3, .int s0)] [.int x1] h) ∧ (¬ s0 ≤ x1 → td_J G d mX10_lastThrough Post 58 [(0, .ref 85), (1, .int x1), (2, .int x2), (3, .int s0)] [.int s0] h)) : td_J G d mX10_lastThrough Post 47 [(0, .ref 85), (1, .int x1), (2, .int x2)] [.int s0] h := by
  refine td_istore_n (lv2 := [(0, .ref 85), (1, .int x1), (2, .int x2), (3, .int s0)]) dX10_lastThrough_47 (by decide) rfl ?_
  refine td_iload_n 3 dX10_lastThrough_48 rfl ?_
  refine td_iload_n 1 dX10_lastThrough_49 rfl ?_
  obtain ⟨Kt, Kf⟩ := K
  refine td_icmp_le (tgt := 57) dX10_lastThrough_50 (by decide) (fun q => ?_) (fun q => ?_)
  · have K := Kt q
    refine td_iload_n 1 dX10_lastThrough_57 rfl ?_
    exact K
  · have K := Kf q
    refine td_iload_n 3 dX10_lastThrough_53 rfl ?_
    refine td_goto (tgt := 58) dX10_lastThrough_54 (by decide) ?_
    exact K
set_option maxRecDepth 20000 in
theorem rX10_lastThrough_58 {G : td_G} {d : Nat} {Post : td_P} {x1 x2 x3 s0 : Int32} {h : td_H} (K : td_J G d mX10_lastThrough Post 4 [(0, .ref 85), (1, .int s0), (2, .int (x2 + 1))] [] h) : td_J G d mX10_lastThrough Post 58 [(0, .ref 85), (1, .int x1), (2, .int x2), (3, .int x3)] [.int s0] h := by
  refine td_istore_n (lv2 := [(0, .ref 85), (1, .int s0), (2, .int x2), (3, .int x3)]) dX10_lastThrough_58 (by decide) rfl ?_
  refine td_iinc 2 (v := x2 + 1) (lv2 := [(0, .ref 85), (1, .int s0), (2, .int (x2 + 1)), (3, .int x3)]) dX10_lastThrough_59 rfl (congrArg (x2 + ·) (by decide)) (by decide) rfl ?_
  refine td_goto (tgt := 4) dX10_lastThrough_62 (by decide) ?_
  refine td_drop [0, 1, 2] rfl ?_
  exact K
set_option maxRecDepth 20000 in
theorem rX10_allWaits_0 {G : td_G} {d : Nat} {Post : td_P} {h : td_H} (K : td_J G d mX10_allWaits Post 4 [(0, .ref 85), (1, .int 0), (2, .int 0)] [] h) : td_J G d mX10_allWaits Post 0 [(0, .ref 85)] [] h := by
  refine td_iconst (v := 0) dX10_allWaits_0 (by decide) ?_
  refine td_istore_n (lv2 := [(0, .ref 85), (1, .int 0)]) dX10_allWaits_1 (by decide) rfl ?_
  refine td_iconst (v := 0) dX10_allWaits_2 (by decide) ?_
  refine td_istore_n (lv2 := [(0, .ref 85), (1, .int 0), (2, .int 0)]) dX10_allWaits_3 (by decide) rfl ?_
  exact K
set_option maxRecDepth 20000 in
theorem rX10_allWaits_4 {G : td_G} {d : Nat} {Post : td_P} {x1 x2 : Int32} {h : td_H} (K : ((h 86 9) ≤ x2 → (Post (some (.int x1)) h)) ∧ (¬ (h 86 9) ≤ x2 → (vp_in x2 12 ∧ (td_J G d mX10_allWaits Post 4 [(0, .ref 85), (1, .int (x1 + (h 95 (ix x2)))), (2, .int (x2 + 1))] [] h)))) : td_J G d mX10_allWaits Post 4 [(0, .ref 85), (1, .int x1), (2, .int x2)] [] h := by
  refine td_iload_n 2 dX10_allWaits_4 rfl ?_
  refine td_aload_n 0 dX10_allWaits_5 rfl ?_
  refine gf_X10_7 rfl kp_85 dX10_allWaits_6 ?_
  refine td_bipush (v := 9) dX10_allWaits_9 (by decide) ?_
  refine td_ialdc (j := 9) kp_86 (by decide) (by unfold vp_in; decide) (by decide) dX10_allWaits_11 ?_
  obtain ⟨Kt, Kf⟩ := K
  refine td_icmp_ge (tgt := 30) dX10_allWaits_12 (by decide) (fun q => ?_) (fun q => ?_)
  · have K := Kt q
    refine td_iload_n 1 dX10_allWaits_30 rfl ?_
    exact td_ireturn rfl dX10_allWaits_31 K
  · have K := Kf q
    refine td_iload_n 1 dX10_allWaits_15 rfl ?_
    refine td_aload_n 0 dX10_allWaits_16 rfl ?_
    refine gf_X10_37 rfl kp_85 dX10_allWaits_17 ?_
    refine td_iload_n 2 dX10_allWaits_20 rfl ?_
    obtain ⟨e21, K⟩ := K
    refine td_ialdc (j := (ix x2)) kp_95 (by decide) e21 rfl dX10_allWaits_21 ?_
    refine td_iadd dX10_allWaits_22 ?_
    refine td_istore_n (lv2 := [(0, .ref 85), (1, .int (x1 + (h 95 (ix x2)))), (2, .int x2)]) dX10_allWaits_23 (by decide) rfl ?_
    refine td_iinc 2 (v := x2 + 1) (lv2 := [(0, .ref 85), (1, .int (x1 + (h 95 (ix x2)))), (2, .int (x2 + 1))]) dX10_allWaits_24 rfl (congrArg (x2 + ·) (by decide)) (by decide) rfl ?_
    refine td_goto (tgt := 4) dX10_allWaits_27 (by decide) ?_
    exact K
set_option maxRecDepth 20000 in
theorem rX10_fate_0 {G : td_G} {d : Nat} {Post : td_P} {x1 x2 : Int32} {h : td_H} (K : td_J G d mX10_fate Post 2 [(0, .ref 85), (1, .int x1), (2, .int x2)] [.int x1, .ref 85] h) : td_J G d mX10_fate Post 0 [(0, .ref 85), (1, .int x1), (2, .int x2)] [] h := by
  refine td_aload_n 0 dX10_fate_0 rfl ?_
  refine td_iload_n 1 dX10_fate_1 rfl ?_
  exact K
set_option maxRecDepth 20000 in
theorem rX10_fate_5 {G : td_G} {d : Nat} {Post : td_P} {x1 x2 s0 : Int32} {h : td_H} (K : (s0 = 0 → td_J G d mX10_fate Post 20 [(0, .ref 85), (1, .int x1), (2, .int x2)] [] h) ∧ (¬ s0 = 0 → td_J G d mX10_fate Post 14 [(0, .ref 85), (1, .int x1), (2, .int x2)] [.long 3, .long 0, .long x2.toInt64] h)) : td_J G d mX10_fate Post 5 [(0, .ref 85), (1, .int x1), (2, .int x2)] [.int s0] h := by
  obtain ⟨Kt, Kf⟩ := K
  refine td_if_eq (tgt := 20) dX10_fate_5 (by decide) (fun q => ?_) (fun q => ?_)
  · have K := Kt q
    exact K
  · have K := Kf q
    refine td_iload_n 2 dX10_fate_8 rfl ?_
    refine td_i2l dX10_fate_9 ?_
    refine td_lconst (v := 0) dX10_fate_10 (by decide) ?_
    refine td_ldc2 (v := 3) kw_X10_226 dX10_fate_11 ?_
    exact K
set_option maxRecDepth 20000 in
theorem rX10_fate_17 {G : td_G} {d : Nat} {Post : td_P} {x1 x2 s0 : Int32} {h : td_H} (K : (¬ s0 = 0 → td_J G d mX10_fate Post 23 [(0, .ref 85), (1, .int x1), (2, .int x2)] [.ref 85] h) ∧ (s0 = 0 → td_J G d mX10_fate Post 20 [(0, .ref 85), (1, .int x1), (2, .int x2)] [] h)) : td_J G d mX10_fate Post 17 [(0, .ref 85), (1, .int x1), (2, .int x2)] [.int s0] h := by
  obtain ⟨Kt, Kf⟩ := K
  refine td_if_ne (tgt := 22) dX10_fate_17 (by decide) (fun q => ?_) (fun q => ?_)
  · have K := Kt q
    refine td_aload_n 0 dX10_fate_22 rfl ?_
    exact K
  · have K := Kf q
    exact K
set_option maxRecDepth 20000 in
theorem rX10_fate_20 {G : td_G} {d : Nat} {Post : td_P} {x1 x2 : Int32} {h : td_H} (K : Post (some (.int (-1))) h) : td_J G d mX10_fate Post 20 [(0, .ref 85), (1, .int x1), (2, .int x2)] [] h := by
  refine td_iconst (v := (-1)) dX10_fate_20 (by decide) ?_
  exact td_ireturn rfl dX10_fate_21 K
set_option maxRecDepth 20000 in
theorem rX10_fate_26 {G : td_G} {d : Nat} {Post : td_P} {x1 x2 : Int32} {h : td_H} (K : td_J G d mX10_fate Post 27 [(0, .ref 85), (1, .int x1), (2, .int x2)] [.ref 85] h) : td_J G d mX10_fate Post 26 [(0, .ref 85), (1, .int x1), (2, .int x2)] [] h := by
  refine td_aload_n 0 dX10_fate_26 rfl ?_
  exact K
set_option maxRecDepth 20000 in
theorem rX10_fate_30 {G : td_G} {d : Nat} {Post : td_P} {x1 x2 : Int32} {h : td_H} (K : (¬ x2 = 0 → ((¬ x2 = 1 → ((¬ x2 = 2 → (vp_in x1 12 ∧ (td_J G d mX10_fate Post 77 [(0, .ref 85), (1, .int x1), (2, .int x2)] [.int (h 96 (ix x1))] h))) ∧ (x2 = 2 → (vp_in x1 12 ∧ (td_J G d mX10_fate Post 77 [(0, .ref 85), (1, .int x1), (2, .int x2)] [.int (h 95 (ix x1))] h))))) ∧ (x2 = 1 → (vp_in x1 12 ∧ (td_J G d mX10_fate Post 77 [(0, .ref 85), (1, .int x1), (2, .int x2)] [.int (h 94 (ix x1))] h))))) ∧ (x2 = 0 → (vp_in x1 12 ∧ (td_J G d mX10_fate Post 77 [(0, .ref 85), (1, .int x1), (2, .int x2)] [.int (h 93 (ix x1))] h)))) : td_J G d mX10_fate Post 30 [(0, .ref 85), (1, .int x1), (2, .int x2)] [] h := by
  refine td_iload_n 2 dX10_fate_30 rfl ?_
  obtain ⟨Kt, Kf⟩ := K
  refine td_if_ne (tgt := 43) dX10_fate_31 (by decide) (fun q => ?_) (fun q => ?_)
  · have K := Kt q
    refine td_iload_n 2 dX10_fate_43 rfl ?_
    refine td_iconst (v := 1) dX10_fate_44 (by decide) ?_
    obtain ⟨Kt, Kf⟩ := K
    refine td_icmp_ne (tgt := 57) dX10_fate_45 (by decide) (fun q => ?_) (fun q => ?_)
    · have K := Kt q
      refine td_iload_n 2 dX10_fate_57 rfl ?_
      refine td_iconst (v := 2) dX10_fate_58 (by decide) ?_
      obtain ⟨Kt, Kf⟩ := K
      refine td_icmp_ne (tgt := 71) dX10_fate_59 (by decide) (fun q => ?_) (fun q => ?_)
      · have K := Kt q
        refine td_aload_n 0 dX10_fate_71 rfl ?_
        refine gf_X10_40 rfl kp_85 dX10_fate_72 ?_
        refine td_iload_n 1 dX10_fate_75 rfl ?_
        obtain ⟨e76, K⟩ := K
        refine td_ialdc (j := (ix x1)) kp_96 (by decide) e76 rfl dX10_fate_76 ?_
        exact K
      · have K := Kf q
        refine td_aload_n 0 dX10_fate_62 rfl ?_
        refine gf_X10_37 rfl kp_85 dX10_fate_63 ?_
        refine td_iload_n 1 dX10_fate_66 rfl ?_
        obtain ⟨e67, K⟩ := K
        refine td_ialdc (j := (ix x1)) kp_95 (by decide) e67 rfl dX10_fate_67 ?_
        refine td_goto (tgt := 77) dX10_fate_68 (by decide) ?_
        exact K
    · have K := Kf q
      refine td_aload_n 0 dX10_fate_48 rfl ?_
      refine gf_X10_34 rfl kp_85 dX10_fate_49 ?_
      refine td_iload_n 1 dX10_fate_52 rfl ?_
      obtain ⟨e53, K⟩ := K
      refine td_ialdc (j := (ix x1)) kp_94 (by decide) e53 rfl dX10_fate_53 ?_
      refine td_goto (tgt := 77) dX10_fate_54 (by decide) ?_
      exact K
  · have K := Kf q
    refine td_aload_n 0 dX10_fate_34 rfl ?_
    refine gf_X10_31 rfl kp_85 dX10_fate_35 ?_
    refine td_iload_n 1 dX10_fate_38 rfl ?_
    obtain ⟨e39, K⟩ := K
    refine td_ialdc (j := (ix x1)) kp_93 (by decide) e39 rfl dX10_fate_39 ?_
    refine td_goto (tgt := 77) dX10_fate_40 (by decide) ?_
    exact K
set_option maxRecDepth 20000 in
theorem rX10_fate_77 {G : td_G} {d : Nat} {Post : td_P} {x1 x2 s0 : Int32} {h : td_H} (K : Post (some (.int s0)) h) : td_J G d mX10_fate Post 77 [(0, .ref 85), (1, .int x1), (2, .int x2)] [.int s0] h := by
  exact td_ireturn rfl dX10_fate_77 K
set_option maxRecDepth 20000 in
theorem rX10_at_0 {G : td_G} {d : Nat} {Post : td_P} {x1 x2 : Int32} {h : td_H} (K : td_J G d mX10_at Post 6 [(0, .ref 85), (1, .int x1), (2, .int x2)] [.long 119, .long 0, .long x1.toInt64] h) : td_J G d mX10_at Post 0 [(0, .ref 85), (1, .int x1), (2, .int x2)] [] h := by
  refine td_iload_n 1 dX10_at_0 rfl ?_
  refine td_i2l dX10_at_1 ?_
  refine td_lconst (v := 0) dX10_at_2 (by decide) ?_
  refine td_ldc2 (v := 119) kw_X10_111 dX10_at_3 ?_
  exact K
set_option maxRecDepth 20000 in
theorem rX10_at_9 {G : td_G} {d : Nat} {Post : td_P} {x1 x2 s0 : Int32} {h : td_H} (K : (s0 = 0 → td_J G d mX10_at Post 24 [(0, .ref 85), (1, .int x1), (2, .int x2)] [] h) ∧ (¬ s0 = 0 → td_J G d mX10_at Post 18 [(0, .ref 85), (1, .int x1), (2, .int x2)] [.long 4, .long 0, .long x2.toInt64] h)) : td_J G d mX10_at Post 9 [(0, .ref 85), (1, .int x1), (2, .int x2)] [.int s0] h := by
  obtain ⟨Kt, Kf⟩ := K
  refine td_if_eq (tgt := 24) dX10_at_9 (by decide) (fun q => ?_) (fun q => ?_)
  · have K := Kt q
    exact K
  · have K := Kf q
    refine td_iload_n 2 dX10_at_12 rfl ?_
    refine td_i2l dX10_at_13 ?_
    refine td_lconst (v := 0) dX10_at_14 (by decide) ?_
    refine td_ldc2 (v := 4) kw_X10_122 dX10_at_15 ?_
    exact K
set_option maxRecDepth 20000 in
theorem rX10_at_21 {G : td_G} {d : Nat} {Post : td_P} {x1 x2 s0 : Int32} {h : td_H} (K : (¬ s0 = 0 → td_J G d mX10_at Post 27 [(0, .ref 85), (1, .int x1), (2, .int x2)] [.ref 85] h) ∧ (s0 = 0 → td_J G d mX10_at Post 24 [(0, .ref 85), (1, .int x1), (2, .int x2)] [] h)) : td_J G d mX10_at Post 21 [(0, .ref 85), (1, .int x1), (2, .int x2)] [.int s0] h := by
  obtain ⟨Kt, Kf⟩ := K
  refine td_if_ne (tgt := 26) dX10_at_21 (by decide) (fun q => ?_) (fun q => ?_)
  · have K := Kt q
    refine td_aload_n 0 dX10_at_26 rfl ?_
    exact K
  · have K := Kf q
    exact K
set_option maxRecDepth 20000 in
theorem rX10_at_24 {G : td_G} {d : Nat} {Post : td_P} {x1 x2 : Int32} {h : td_H} (K : Post (some (.int (-1))) h) : td_J G d mX10_at Post 24 [(0, .ref 85), (1, .int x1), (2, .int x2)] [] h := by
  refine td_iconst (v := (-1)) dX10_at_24 (by decide) ?_
  exact td_ireturn rfl dX10_at_25 K
set_option maxRecDepth 20000 in
theorem rX10_at_30 {G : td_G} {d : Nat} {Post : td_P} {x1 x2 : Int32} {h : td_H} (K : td_J G d mX10_at Post 32 [(0, .ref 85), (1, .int x1), (2, .int x2)] [.int x1, .ref 85] h) : td_J G d mX10_at Post 30 [(0, .ref 85), (1, .int x1), (2, .int x2)] [] h := by
  refine td_aload_n 0 dX10_at_30 rfl ?_
  refine td_iload_n 1 dX10_at_31 rfl ?_
  exact K
set_option maxRecDepth 20000 in
theorem rX10_at_35 {G : td_G} {d : Nat} {Post : td_P} {x1 x2 : Int32} {h : td_H} (K : (¬ x2 = 0 → ((¬ x2 = 1 → ((¬ x2 = 2 → ((¬ x2 = 3 → td_J G d mX10_at Post 88 [(0, .ref 85), (1, .int x1), (2, .int x2)] [.int (h 85 19)] h) ∧ (x2 = 3 → td_J G d mX10_at Post 78 [(0, .ref 85), (1, .int x1), (2, .int x2)] [.int 1, .ref 85] h))) ∧ (x2 = 2 → td_J G d mX10_at Post 65 [(0, .ref 85), (1, .int x1), (2, .int x2)] [.int 2, .ref 85] h))) ∧ (x2 = 1 → td_J G d mX10_at Post 88 [(0, .ref 85), (1, .int x1), (2, .int x2)] [.int (h 85 18)] h))) ∧ (x2 = 0 → td_J G d mX10_at Post 88 [(0, .ref 85), (1, .int x1), (2, .int x2)] [.int (h 85 17)] h)) : td_J G d mX10_at Post 35 [(0, .ref 85), (1, .int x1), (2, .int x2)] [] h := by
  refine td_iload_n 2 dX10_at_35 rfl ?_
  obtain ⟨Kt, Kf⟩ := K
  refine td_if_ne (tgt := 46) dX10_at_36 (by decide) (fun q => ?_) (fun q => ?_)
  · have K := Kt q
    refine td_iload_n 2 dX10_at_46 rfl ?_
    refine td_iconst (v := 1) dX10_at_47 (by decide) ?_
    obtain ⟨Kt, Kf⟩ := K
    refine td_icmp_ne (tgt := 58) dX10_at_48 (by decide) (fun q => ?_) (fun q => ?_)
    · have K := Kt q
      refine td_iload_n 2 dX10_at_58 rfl ?_
      refine td_iconst (v := 2) dX10_at_59 (by decide) ?_
      obtain ⟨Kt, Kf⟩ := K
      refine td_icmp_ne (tgt := 71) dX10_at_60 (by decide) (fun q => ?_) (fun q => ?_)
      · have K := Kt q
        refine td_iload_n 2 dX10_at_71 rfl ?_
        refine td_iconst (v := 3) dX10_at_72 (by decide) ?_
        obtain ⟨Kt, Kf⟩ := K
        refine td_icmp_ne (tgt := 84) dX10_at_73 (by decide) (fun q => ?_) (fun q => ?_)
        · have K := Kt q
          refine td_aload_n 0 dX10_at_84 rfl ?_
          refine gf_X10_170 rfl kp_85 dX10_at_85 ?_
          exact K
        · have K := Kf q
          refine td_aload_n 0 dX10_at_76 rfl ?_
          refine td_iconst (v := 1) dX10_at_77 (by decide) ?_
          exact K
      · have K := Kf q
        refine td_aload_n 0 dX10_at_63 rfl ?_
        refine td_iconst (v := 2) dX10_at_64 (by decide) ?_
        exact K
    · have K := Kf q
      refine td_aload_n 0 dX10_at_51 rfl ?_
      refine gf_X10_173 rfl kp_85 dX10_at_52 ?_
      refine td_goto (tgt := 88) dX10_at_55 (by decide) ?_
      exact K
  · have K := Kf q
    refine td_aload_n 0 dX10_at_39 rfl ?_
    refine gf_X10_176 rfl kp_85 dX10_at_40 ?_
    refine td_goto (tgt := 88) dX10_at_43 (by decide) ?_
    exact K
set_option maxRecDepth 20000 in
theorem rX10_at_68 {G : td_G} {d : Nat} {Post : td_P} {x1 x2 s0 : Int32} {h : td_H} (K : td_J G d mX10_at Post 88 [(0, .ref 85), (1, .int x1), (2, .int x2)] [.int s0] h) : td_J G d mX10_at Post 68 [(0, .ref 85), (1, .int x1), (2, .int x2)] [.int s0] h := by
  refine td_goto (tgt := 88) dX10_at_68 (by decide) ?_
  exact K
set_option maxRecDepth 20000 in
theorem rX10_at_81 {G : td_G} {d : Nat} {Post : td_P} {x1 x2 s0 : Int32} {h : td_H} (K : td_J G d mX10_at Post 88 [(0, .ref 85), (1, .int x1), (2, .int x2)] [.int s0] h) : td_J G d mX10_at Post 81 [(0, .ref 85), (1, .int x1), (2, .int x2)] [.int s0] h := by
  refine td_goto (tgt := 88) dX10_at_81 (by decide) ?_
  exact K
set_option maxRecDepth 20000 in
theorem rX10_at_88 {G : td_G} {d : Nat} {Post : td_P} {x1 x2 s0 : Int32} {h : td_H} (K : Post (some (.int s0)) h) : td_J G d mX10_at Post 88 [(0, .ref 85), (1, .int x1), (2, .int x2)] [.int s0] h := by
  exact td_ireturn rfl dX10_at_88 K
set_option maxRecDepth 20000 in
theorem rX10_within_0 {G : td_G} {d : Nat} {Post : td_P} {x1 x2 : Int32} {h : td_H} (K : td_J G d mX10_within Post 6 [(0, .ref 85), (1, .int x1), (2, .int x2)] [.long 119, .long 0, .long x1.toInt64] h) : td_J G d mX10_within Post 0 [(0, .ref 85), (1, .int x1), (2, .int x2)] [] h := by
  refine td_iload_n 1 dX10_within_0 rfl ?_
  refine td_i2l dX10_within_1 ?_
  refine td_lconst (v := 0) dX10_within_2 (by decide) ?_
  refine td_ldc2 (v := 119) kw_X10_111 dX10_within_3 ?_
  exact K
set_option maxRecDepth 20000 in
theorem rX10_within_9 {G : td_G} {d : Nat} {Post : td_P} {x1 x2 s0 : Int32} {h : td_H} (K : (s0 = 0 → td_J G d mX10_within Post 20 [(0, .ref 85), (1, .int x1), (2, .int x2)] [] h) ∧ (¬ s0 = 0 → td_J G d mX10_within Post 14 [(0, .ref 85), (1, .int x1), (2, .int x2)] [.int x2, .ref 85] h)) : td_J G d mX10_within Post 9 [(0, .ref 85), (1, .int x1), (2, .int x2)] [.int s0] h := by
  obtain ⟨Kt, Kf⟩ := K
  refine td_if_eq (tgt := 20) dX10_within_9 (by decide) (fun q => ?_) (fun q => ?_)
  · have K := Kt q
    exact K
  · have K := Kf q
    refine td_aload_n 0 dX10_within_12 rfl ?_
    refine td_iload_n 2 dX10_within_13 rfl ?_
    exact K
set_option maxRecDepth 20000 in
theorem rX10_within_17 {G : td_G} {d : Nat} {Post : td_P} {x1 x2 s0 : Int32} {h : td_H} (K : (¬ s0 = 0 → td_J G d mX10_within Post 23 [(0, .ref 85), (1, .int x1), (2, .int x2)] [.ref 85] h) ∧ (s0 = 0 → td_J G d mX10_within Post 20 [(0, .ref 85), (1, .int x1), (2, .int x2)] [] h)) : td_J G d mX10_within Post 17 [(0, .ref 85), (1, .int x1), (2, .int x2)] [.int s0] h := by
  obtain ⟨Kt, Kf⟩ := K
  refine td_if_ne (tgt := 22) dX10_within_17 (by decide) (fun q => ?_) (fun q => ?_)
  · have K := Kt q
    refine td_aload_n 0 dX10_within_22 rfl ?_
    exact K
  · have K := Kf q
    exact K
set_option maxRecDepth 20000 in
theorem rX10_within_20 {G : td_G} {d : Nat} {Post : td_P} {x1 x2 : Int32} {h : td_H} (K : Post (some (.int (-1))) h) : td_J G d mX10_within Post 20 [(0, .ref 85), (1, .int x1), (2, .int x2)] [] h := by
  refine td_iconst (v := (-1)) dX10_within_20 (by decide) ?_
  exact td_ireturn rfl dX10_within_21 K
set_option maxRecDepth 20000 in
theorem rX10_within_26 {G : td_G} {d : Nat} {Post : td_P} {x1 x2 : Int32} {h : td_H} (K : td_J G d mX10_within Post 28 [(0, .ref 85), (1, .int x1), (2, .int x2)] [.int x1, .ref 85] h) : td_J G d mX10_within Post 26 [(0, .ref 85), (1, .int x1), (2, .int x2)] [] h := by
  refine td_aload_n 0 dX10_within_26 rfl ?_
  refine td_iload_n 1 dX10_within_27 rfl ?_
  exact K
set_option maxRecDepth 20000 in
theorem rX10_within_31 {G : td_G} {d : Nat} {Post : td_P} {x1 x2 : Int32} {h : td_H} (K : td_J G d mX10_within Post 33 [(0, .ref 85), (1, .int x1), (2, .int x2)] [.int x2, .ref 85] h) : td_J G d mX10_within Post 31 [(0, .ref 85), (1, .int x1), (2, .int x2)] [] h := by
  refine td_aload_n 0 dX10_within_31 rfl ?_
  refine td_iload_n 2 dX10_within_32 rfl ?_
  exact K
set_option maxRecDepth 20000 in
theorem rX10_within_36 {G : td_G} {d : Nat} {Post : td_P} {x1 x2 s0 : Int32} {h : td_H} (K : Post (some (.int s0)) h) : td_J G d mX10_within Post 36 [(0, .ref 85), (1, .int x1), (2, .int x2)] [.int s0] h := by
  exact td_ireturn rfl dX10_within_36 K
set_option maxRecDepth 20000 in
theorem rX10_all_0 {G : td_G} {d : Nat} {Post : td_P} {x1 : Int32} {h : td_H} (K : td_J G d mX10_all Post 6 [(0, .ref 85), (1, .int x1)] [.long 6, .long 0, .long x1.toInt64] h) : td_J G d mX10_all Post 0 [(0, .ref 85), (1, .int x1)] [] h := by
  refine td_iload_n 1 dX10_all_0 rfl ?_
  refine td_i2l dX10_all_1 ?_
  refine td_lconst (v := 0) dX10_all_2 (by decide) ?_
  refine td_ldc2 (v := 6) kw_X10_231 dX10_all_3 ?_
  exact K
set_option maxRecDepth 20000 in
theorem rX10_all_9 {G : td_G} {d : Nat} {Post : td_P} {x1 s0 : Int32} {h : td_H} (K : (¬ s0 = 0 → td_J G d mX10_all Post 15 [(0, .ref 85), (1, .int x1)] [.ref 85] h) ∧ (s0 = 0 → (Post (some (.int (-1))) h))) : td_J G d mX10_all Post 9 [(0, .ref 85), (1, .int x1)] [.int s0] h := by
  obtain ⟨Kt, Kf⟩ := K
  refine td_if_ne (tgt := 14) dX10_all_9 (by decide) (fun q => ?_) (fun q => ?_)
  · have K := Kt q
    refine td_aload_n 0 dX10_all_14 rfl ?_
    exact K
  · have K := Kf q
    refine td_iconst (v := (-1)) dX10_all_12 (by decide) ?_
    exact td_ireturn rfl dX10_all_13 K
set_option maxRecDepth 20000 in
theorem rX10_all_18 {G : td_G} {d : Nat} {Post : td_P} {x1 : Int32} {h : td_H} (K : td_J G d mX10_all Post 19 [(0, .ref 85), (1, .int x1)] [.ref 85] h) : td_J G d mX10_all Post 18 [(0, .ref 85), (1, .int x1)] [] h := by
  refine td_aload_n 0 dX10_all_18 rfl ?_
  exact K
set_option maxRecDepth 20000 in
theorem rX10_all_22 {G : td_G} {d : Nat} {Post : td_P} {x1 : Int32} {h : td_H} (K : td_J G d mX10_all Post 26 [(0, .ref 85), (1, .int x1), (2, .int 0), (3, .int 0)] [] h) : td_J G d mX10_all Post 22 [(0, .ref 85), (1, .int x1)] [] h := by
  refine td_iconst (v := 0) dX10_all_22 (by decide) ?_
  refine td_istore_n (lv2 := [(0, .ref 85), (1, .int x1), (2, .int 0)]) dX10_all_23 (by decide) rfl ?_
  refine td_iconst (v := 0) dX10_all_24 (by decide) ?_
  refine td_istore_n (lv2 := [(0, .ref 85), (1, .int x1), (2, .int 0), (3, .int 0)]) dX10_all_25 (by decide) rfl ?_
  exact K
set_option maxRecDepth 20000 in
theorem rX10_all_26 {G : td_G} {d : Nat} {Post : td_P} {x1 x2 x3 : Int32} {h : td_H} (K : ((h 86 9) ≤ x3 → ((x1 = 0 → td_J G d mX10_all Post 94 [(0, .ref 85), (1, .int x1), (2, .int x2), (3, .int x3)] [.int 3, .ref 85] h) ∧ (x1 = 1 → td_J G d mX10_all Post 102 [(0, .ref 85), (1, .int x1), (2, .int x2), (3, .int x3)] [.ref 85] h) ∧ (x1 = 2 → td_J G d mX10_all Post 107 [(0, .ref 85), (1, .int x1), (2, .int x2), (3, .int x3)] [.ref 85] h) ∧ (x1 = 3 → (Post (some (.int (h 85 20))) h)) ∧ (x1 = 4 → (Post (some (.int (h 85 21))) h)) ∧ (x1 = 5 → (Post (some (.int x2)) h)) ∧ (¬ x1 = 0 ∧ ¬ x1 = 1 ∧ ¬ x1 = 2 ∧ ¬ x1 = 3 ∧ ¬ x1 = 4 ∧ ¬ x1 = 5 → (Post (some (.int (h 85 22))) h)))) ∧ (¬ (h 86 9) ≤ x3 → (vp_in x3 12 ∧ (td_J G d mX10_all Post 26 [(0, .ref 85), (1, .int x1), (2, .int (x2 + (h 96 (ix x3)))), (3, .int (x3 + 1))] [] h)))) : td_J G d mX10_all Post 26 [(0, .ref 85), (1, .int x1), (2, .int x2), (3, .int x3)] [] h := by
  refine td_iload_n 3 dX10_all_26 rfl ?_
  refine td_aload_n 0 dX10_all_27 rfl ?_
  refine gf_X10_7 rfl kp_85 dX10_all_28 ?_
  refine td_bipush (v := 9) dX10_all_31 (by decide) ?_
  refine td_ialdc (j := 9) kp_86 (by decide) (by unfold vp_in; decide) (by decide) dX10_all_33 ?_
  obtain ⟨Kt, Kf⟩ := K
  refine td_icmp_ge (tgt := 52) dX10_all_34 (by decide) (fun q => ?_) (fun q => ?_)
  · have K := Kt q
    refine td_iload_n 1 dX10_all_52 rfl ?_
    obtain ⟨K0, K⟩ := K
    by_cases q0 : x1 = 0
    · have K := K0 q0
      refine td_eqs (congrArg (fun z => Value.int z :: []) q0.symm) ?_
      refine td_tsin (tgt := 92) dX10_all_53 (by decide) (by decide) rfl (by decide) ?_
      refine td_aload_n 0 dX10_all_92 rfl ?_
      refine td_iconst (v := 3) dX10_all_93 (by decide) ?_
      exact K
    obtain ⟨K1, K⟩ := K
    by_cases q1 : x1 = 1
    · have K := K1 q1
      refine td_eqs (congrArg (fun z => Value.int z :: []) q1.symm) ?_
      refine td_tsin (tgt := 101) dX10_all_53 (by decide) (by decide) rfl (by decide) ?_
      refine td_aload_n 0 dX10_all_101 rfl ?_
      exact K
    obtain ⟨K2, K⟩ := K
    by_cases q2 : x1 = 2
    · have K := K2 q2
      refine td_eqs (congrArg (fun z => Value.int z :: []) q2.symm) ?_
      refine td_tsin (tgt := 106) dX10_all_53 (by decide) (by decide) rfl (by decide) ?_
      refine td_aload_n 0 dX10_all_106 rfl ?_
      exact K
    obtain ⟨K3, K⟩ := K
    by_cases q3 : x1 = 3
    · have K := K3 q3
      refine td_eqs (congrArg (fun z => Value.int z :: []) q3.symm) ?_
      refine td_tsin (tgt := 111) dX10_all_53 (by decide) (by decide) rfl (by decide) ?_
      refine td_aload_n 0 dX10_all_111 rfl ?_
      refine gf_X10_186 rfl kp_85 dX10_all_112 ?_
      exact td_ireturn rfl dX10_all_115 K
    obtain ⟨K4, K⟩ := K
    by_cases q4 : x1 = 4
    · have K := K4 q4
      refine td_eqs (congrArg (fun z => Value.int z :: []) q4.symm) ?_
      refine td_tsin (tgt := 116) dX10_all_53 (by decide) (by decide) rfl (by decide) ?_
      refine td_aload_n 0 dX10_all_116 rfl ?_
      refine gf_X10_179 rfl kp_85 dX10_all_117 ?_
      exact td_ireturn rfl dX10_all_120 K
    obtain ⟨K5, K⟩ := K
    by_cases q5 : x1 = 5
    · have K := K5 q5
      refine td_eqs (congrArg (fun z => Value.int z :: []) q5.symm) ?_
      refine td_tsin (tgt := 121) dX10_all_53 (by decide) (by decide) rfl (by decide) ?_
      refine td_iload_n 2 dX10_all_121 rfl ?_
      exact td_ireturn rfl dX10_all_122 K
    have K := K ⟨q0, q1, q2, q3, q4, q5⟩
    refine td_tsout (tgt := 123) dX10_all_53 (by have z : ∀ n : Nat, n < 16 → ¬ x1 = nI n → x1.toInt ≠ n := fun n hn e g => e (td_i32 g hn); have z0 := z 0 (by decide) q0; have z1 := z 1 (by decide) q1; have z2 := z 2 (by decide) q2; have z3 := z 3 (by decide) q3; have z4 := z 4 (by decide) q4; have z5 := z 5 (by decide) q5; omega) (by decide) ?_
    refine td_aload_n 0 dX10_all_123 rfl ?_
    refine gf_X10_204 rfl kp_85 dX10_all_124 ?_
    exact td_ireturn rfl dX10_all_127 K
  · have K := Kf q
    refine td_iload_n 2 dX10_all_37 rfl ?_
    refine td_aload_n 0 dX10_all_38 rfl ?_
    refine gf_X10_40 rfl kp_85 dX10_all_39 ?_
    refine td_iload_n 3 dX10_all_42 rfl ?_
    obtain ⟨e43, K⟩ := K
    refine td_ialdc (j := (ix x3)) kp_96 (by decide) e43 rfl dX10_all_43 ?_
    refine td_iadd dX10_all_44 ?_
    refine td_istore_n (lv2 := [(0, .ref 85), (1, .int x1), (2, .int (x2 + (h 96 (ix x3)))), (3, .int x3)]) dX10_all_45 (by decide) rfl ?_
    refine td_iinc 3 (v := x3 + 1) (lv2 := [(0, .ref 85), (1, .int x1), (2, .int (x2 + (h 96 (ix x3)))), (3, .int (x3 + 1))]) dX10_all_46 rfl (congrArg (x3 + ·) (by decide)) (by decide) rfl ?_
    refine td_goto (tgt := 26) dX10_all_49 (by decide) ?_
    exact K
set_option maxRecDepth 20000 in
theorem rX10_all_100 {G : td_G} {d : Nat} {Post : td_P} {x1 x2 x3 s0 : Int32} {h : td_H} (K : Post (some (.int s0)) h) : td_J G d mX10_all Post 100 [(0, .ref 85), (1, .int x1), (2, .int x2), (3, .int x3)] [.int s0] h := by
  exact td_ireturn rfl dX10_all_100 K
set_option maxRecDepth 20000 in
theorem rX10_all_105 {G : td_G} {d : Nat} {Post : td_P} {x1 x2 x3 s0 : Int32} {h : td_H} (K : Post (some (.int s0)) h) : td_J G d mX10_all Post 105 [(0, .ref 85), (1, .int x1), (2, .int x2), (3, .int x3)] [.int s0] h := by
  exact td_ireturn rfl dX10_all_105 K
set_option maxRecDepth 20000 in
theorem rX10_all_110 {G : td_G} {d : Nat} {Post : td_P} {x1 x2 x3 s0 : Int32} {h : td_H} (K : Post (some (.int s0)) h) : td_J G d mX10_all Post 110 [(0, .ref 85), (1, .int x1), (2, .int x2), (3, .int x3)] [.int s0] h := by
  exact td_ireturn rfl dX10_all_110 K
set_option maxRecDepth 20000 in
theorem rX10_shared_0 {G : td_G} {d : Nat} {Post : td_P} {x1 x2 : Int32} {h : td_H} (K : td_J G d mX10_shared Post 2 [(0, .ref 85), (1, .int x1), (2, .int x2)] [.int x1, .ref 85] h) : td_J G d mX10_shared Post 0 [(0, .ref 85), (1, .int x1), (2, .int x2)] [] h := by
  refine td_aload_n 0 dX10_shared_0 rfl ?_
  refine td_iload_n 1 dX10_shared_1 rfl ?_
  exact K
set_option maxRecDepth 20000 in
theorem rX10_shared_5 {G : td_G} {d : Nat} {Post : td_P} {x1 x2 s0 : Int32} {h : td_H} (K : (s0 = 0 → td_J G d mX10_shared Post 21 [(0, .ref 85), (1, .int x1), (2, .int x2)] [] h) ∧ (¬ s0 = 0 → td_J G d mX10_shared Post 10 [(0, .ref 85), (1, .int x1), (2, .int x2)] [.int x2, .ref 85] h)) : td_J G d mX10_shared Post 5 [(0, .ref 85), (1, .int x1), (2, .int x2)] [.int s0] h := by
  obtain ⟨Kt, Kf⟩ := K
  refine td_if_eq (tgt := 21) dX10_shared_5 (by decide) (fun q => ?_) (fun q => ?_)
  · have K := Kt q
    exact K
  · have K := Kf q
    refine td_aload_n 0 dX10_shared_8 rfl ?_
    refine td_iload_n 2 dX10_shared_9 rfl ?_
    exact K
set_option maxRecDepth 20000 in
theorem rX10_shared_13 {G : td_G} {d : Nat} {Post : td_P} {x1 x2 s0 : Int32} {h : td_H} (K : (s0 = 0 → td_J G d mX10_shared Post 21 [(0, .ref 85), (1, .int x1), (2, .int x2)] [] h) ∧ (¬ s0 = 0 → ((¬ x1 = x2 → td_J G d mX10_shared Post 24 [(0, .ref 85), (1, .int x1), (2, .int x2)] [.ref 85] h) ∧ (x1 = x2 → td_J G d mX10_shared Post 21 [(0, .ref 85), (1, .int x1), (2, .int x2)] [] h)))) : td_J G d mX10_shared Post 13 [(0, .ref 85), (1, .int x1), (2, .int x2)] [.int s0] h := by
  obtain ⟨Kt, Kf⟩ := K
  refine td_if_eq (tgt := 21) dX10_shared_13 (by decide) (fun q => ?_) (fun q => ?_)
  · have K := Kt q
    exact K
  · have K := Kf q
    refine td_iload_n 1 dX10_shared_16 rfl ?_
    refine td_iload_n 2 dX10_shared_17 rfl ?_
    obtain ⟨Kt, Kf⟩ := K
    refine td_icmp_ne (tgt := 23) dX10_shared_18 (by decide) (fun q => ?_) (fun q => ?_)
    · have K := Kt q
      refine td_aload_n 0 dX10_shared_23 rfl ?_
      exact K
    · have K := Kf q
      exact K
set_option maxRecDepth 20000 in
theorem rX10_shared_21 {G : td_G} {d : Nat} {Post : td_P} {x1 x2 : Int32} {h : td_H} (K : Post (some (.int (-1))) h) : td_J G d mX10_shared Post 21 [(0, .ref 85), (1, .int x1), (2, .int x2)] [] h := by
  refine td_iconst (v := (-1)) dX10_shared_21 (by decide) ?_
  exact td_ireturn rfl dX10_shared_22 K
set_option maxRecDepth 20000 in
theorem rX10_shared_27 {G : td_G} {d : Nat} {Post : td_P} {x1 x2 : Int32} {h : td_H} (K : td_J G d mX10_shared Post 28 [(0, .ref 85), (1, .int x1), (2, .int x2)] [.ref 85] h) : td_J G d mX10_shared Post 27 [(0, .ref 85), (1, .int x1), (2, .int x2)] [] h := by
  refine td_aload_n 0 dX10_shared_27 rfl ?_
  exact K
set_option maxRecDepth 20000 in
theorem rX10_shared_31 {G : td_G} {d : Nat} {Post : td_P} {x1 x2 : Int32} {h : td_H} (K : vp_in x1 12 ∧ (td_J G d mX10_shared Post 38 [(0, .ref 85), (1, .int x1), (2, .int x2)] [.int x2, .int (h 98 (ix x1))] h)) : td_J G d mX10_shared Post 31 [(0, .ref 85), (1, .int x1), (2, .int x2)] [] h := by
  refine td_aload_n 0 dX10_shared_31 rfl ?_
  refine gf_X10_46 rfl kp_85 dX10_shared_32 ?_
  refine td_iload_n 1 dX10_shared_35 rfl ?_
  obtain ⟨e36, K⟩ := K
  refine td_ialdc (j := (ix x1)) kp_98 (by decide) e36 rfl dX10_shared_36 ?_
  refine td_iload_n 2 dX10_shared_37 rfl ?_
  exact K
set_option maxRecDepth 20000 in
theorem rX10_shared_41 {G : td_G} {d : Nat} {Post : td_P} {x1 x2 s0 : Int32} {h : td_H} (K : (s0 = 0 → td_J G d mX10_shared Post 49 [(0, .ref 85), (1, .int x1), (2, .int x2)] [.int 0] h) ∧ (¬ s0 = 0 → td_J G d mX10_shared Post 49 [(0, .ref 85), (1, .int x1), (2, .int x2)] [.int 1] h)) : td_J G d mX10_shared Post 41 [(0, .ref 85), (1, .int x1), (2, .int x2)] [.int s0] h := by
  obtain ⟨Kt, Kf⟩ := K
  refine td_if_eq (tgt := 48) dX10_shared_41 (by decide) (fun q => ?_) (fun q => ?_)
  · have K := Kt q
    refine td_iconst (v := 0) dX10_shared_48 (by decide) ?_
    exact K
  · have K := Kf q
    refine td_iconst (v := 1) dX10_shared_44 (by decide) ?_
    refine td_goto (tgt := 49) dX10_shared_45 (by decide) ?_
    exact K
set_option maxRecDepth 20000 in
theorem rX10_shared_49 {G : td_G} {d : Nat} {Post : td_P} {x1 x2 s0 : Int32} {h : td_H} (K : Post (some (.int s0)) h) : td_J G d mX10_shared Post 49 [(0, .ref 85), (1, .int x1), (2, .int x2)] [.int s0] h := by
  exact td_ireturn rfl dX10_shared_49 K
set_option maxRecDepth 20000 in
theorem rX10_motor_0 {G : td_G} {d : Nat} {Post : td_P} {x1 : Int32} {h : td_H} (K : td_J G d mX10_motor Post 6 [(0, .ref 85), (1, .int x1)] [.long 119, .long 0, .long x1.toInt64] h) : td_J G d mX10_motor Post 0 [(0, .ref 85), (1, .int x1)] [] h := by
  refine td_iload_n 1 dX10_motor_0 rfl ?_
  refine td_i2l dX10_motor_1 ?_
  refine td_lconst (v := 0) dX10_motor_2 (by decide) ?_
  refine td_ldc2 (v := 119) kw_X10_111 dX10_motor_3 ?_
  exact K
set_option maxRecDepth 20000 in
theorem rX10_motor_9 {G : td_G} {d : Nat} {Post : td_P} {x1 s0 : Int32} {h : td_H} (K : (¬ s0 = 0 → td_J G d mX10_motor Post 15 [(0, .ref 85), (1, .int x1)] [.ref 85] h) ∧ (s0 = 0 → (Post (some (.int (-1))) h))) : td_J G d mX10_motor Post 9 [(0, .ref 85), (1, .int x1)] [.int s0] h := by
  obtain ⟨Kt, Kf⟩ := K
  refine td_if_ne (tgt := 14) dX10_motor_9 (by decide) (fun q => ?_) (fun q => ?_)
  · have K := Kt q
    refine td_aload_n 0 dX10_motor_14 rfl ?_
    exact K
  · have K := Kf q
    refine td_iconst (v := (-1)) dX10_motor_12 (by decide) ?_
    exact td_ireturn rfl dX10_motor_13 K
set_option maxRecDepth 20000 in
theorem rX10_motor_18 {G : td_G} {d : Nat} {Post : td_P} {x1 : Int32} {h : td_H} (K : td_J G d mX10_motor Post 20 [(0, .ref 85), (1, .int x1), (2, .int 0)] [] h) : td_J G d mX10_motor Post 18 [(0, .ref 85), (1, .int x1)] [] h := by
  refine td_iconst (v := 0) dX10_motor_18 (by decide) ?_
  refine td_istore_n (lv2 := [(0, .ref 85), (1, .int x1), (2, .int 0)]) dX10_motor_19 (by decide) rfl ?_
  exact K
set_option maxRecDepth 20000 in
theorem rX10_motor_20 {G : td_G} {d : Nat} {Post : td_P} {x1 x2 : Int32} {h : td_H} (K : (20 < x2 → (Post (some (.int (-4))) h)) ∧ (¬ 20 < x2 → td_J G d mX10_motor Post 34 [(0, .ref 85), (1, .int x1), (2, .int x2)] [.ref 85] (hu h 87 3 x2))) : td_J G d mX10_motor Post 20 [(0, .ref 85), (1, .int x1), (2, .int x2)] [] h := by
  refine td_iload_n 2 dX10_motor_20 rfl ?_
  refine td_bipush (v := 20) dX10_motor_21 (by decide) ?_
  obtain ⟨Kt, Kf⟩ := K
  refine td_icmp_gt (tgt := 53) dX10_motor_23 (by decide) (fun q => ?_) (fun q => ?_)
  · have K := Kt q
    refine td_bipush (v := (-4)) dX10_motor_53 (by decide) ?_
    exact td_ireturn rfl dX10_motor_55 K
  · have K := Kf q
    refine td_aload_n 0 dX10_motor_26 rfl ?_
    refine gf_X10_13 rfl kp_85 dX10_motor_27 ?_
    refine td_iconst (v := 3) dX10_motor_30 (by decide) ?_
    refine td_iload_n 2 dX10_motor_31 rfl ?_
    refine td_iastc (j := 3) kp_87 (by decide) (by unfold vp_in; decide) (by decide) dX10_motor_32 ?_
    refine td_aload_n 0 dX10_motor_33 rfl ?_
    exact K
set_option maxRecDepth 20000 in
theorem rX10_motor_37 {G : td_G} {d : Nat} {Post : td_P} {x1 x2 : Int32} {h : td_H} (K : td_J G d mX10_motor Post 38 [(0, .ref 85), (1, .int x1), (2, .int x2)] [.ref 85] h) : td_J G d mX10_motor Post 37 [(0, .ref 85), (1, .int x1), (2, .int x2)] [] h := by
  refine td_aload_n 0 dX10_motor_37 rfl ?_
  exact K
set_option maxRecDepth 20000 in
theorem rX10_motor_41 {G : td_G} {d : Nat} {Post : td_P} {x1 x2 s0 : Int32} {h : td_H} (K : (x1 < s0 → td_J G d mX10_motor Post 20 [(0, .ref 85), (1, .int x1), (2, .int (x2 + 1))] [] h) ∧ (¬ x1 < s0 → (Post (some (.int x2)) h))) : td_J G d mX10_motor Post 41 [(0, .ref 85), (1, .int x1), (2, .int x2)] [.int s0] h := by
  refine td_iload_n 1 dX10_motor_41 rfl ?_
  obtain ⟨Kt, Kf⟩ := K
  refine td_icmp_gt (tgt := 47) dX10_motor_42 (by decide) (fun q => ?_) (fun q => ?_)
  · have K := Kt q
    refine td_iinc 2 (v := x2 + 1) (lv2 := [(0, .ref 85), (1, .int x1), (2, .int (x2 + 1))]) dX10_motor_47 rfl (congrArg (x2 + ·) (by decide)) (by decide) rfl ?_
    refine td_goto (tgt := 20) dX10_motor_50 (by decide) ?_
    exact K
  · have K := Kf q
    refine td_iload_n 2 dX10_motor_45 rfl ?_
    exact td_ireturn rfl dX10_motor_46 K
set_option maxRecDepth 20000 in
theorem rX10_warmest_0 {G : td_G} {d : Nat} {Post : td_P} {x1 x2 : Int32} {h : td_H} (K : td_J G d mX10_warmest Post 6 [(0, .ref 85), (1, .int x1), (2, .int x2)] [.long 119, .long 0, .long x1.toInt64] h) : td_J G d mX10_warmest Post 0 [(0, .ref 85), (1, .int x1), (2, .int x2)] [] h := by
  refine td_iload_n 1 dX10_warmest_0 rfl ?_
  refine td_i2l dX10_warmest_1 ?_
  refine td_lconst (v := 0) dX10_warmest_2 (by decide) ?_
  refine td_ldc2 (v := 119) kw_X10_111 dX10_warmest_3 ?_
  exact K
set_option maxRecDepth 20000 in
theorem rX10_warmest_9 {G : td_G} {d : Nat} {Post : td_P} {x1 x2 s0 : Int32} {h : td_H} (K : (s0 = 0 → td_J G d mX10_warmest Post 24 [(0, .ref 85), (1, .int x1), (2, .int x2)] [] h) ∧ (¬ s0 = 0 → td_J G d mX10_warmest Post 18 [(0, .ref 85), (1, .int x1), (2, .int x2)] [.long 3, .long 0, .long x2.toInt64] h)) : td_J G d mX10_warmest Post 9 [(0, .ref 85), (1, .int x1), (2, .int x2)] [.int s0] h := by
  obtain ⟨Kt, Kf⟩ := K
  refine td_if_eq (tgt := 24) dX10_warmest_9 (by decide) (fun q => ?_) (fun q => ?_)
  · have K := Kt q
    exact K
  · have K := Kf q
    refine td_iload_n 2 dX10_warmest_12 rfl ?_
    refine td_i2l dX10_warmest_13 ?_
    refine td_lconst (v := 0) dX10_warmest_14 (by decide) ?_
    refine td_ldc2 (v := 3) kw_X10_226 dX10_warmest_15 ?_
    exact K
set_option maxRecDepth 20000 in
theorem rX10_warmest_21 {G : td_G} {d : Nat} {Post : td_P} {x1 x2 s0 : Int32} {h : td_H} (K : (¬ s0 = 0 → td_J G d mX10_warmest Post 27 [(0, .ref 85), (1, .int x1), (2, .int x2)] [.ref 85] h) ∧ (s0 = 0 → td_J G d mX10_warmest Post 24 [(0, .ref 85), (1, .int x1), (2, .int x2)] [] h)) : td_J G d mX10_warmest Post 21 [(0, .ref 85), (1, .int x1), (2, .int x2)] [.int s0] h := by
  obtain ⟨Kt, Kf⟩ := K
  refine td_if_ne (tgt := 26) dX10_warmest_21 (by decide) (fun q => ?_) (fun q => ?_)
  · have K := Kt q
    refine td_aload_n 0 dX10_warmest_26 rfl ?_
    exact K
  · have K := Kf q
    exact K
set_option maxRecDepth 20000 in
theorem rX10_warmest_24 {G : td_G} {d : Nat} {Post : td_P} {x1 x2 : Int32} {h : td_H} (K : Post (some (.int (-1))) h) : td_J G d mX10_warmest Post 24 [(0, .ref 85), (1, .int x1), (2, .int x2)] [] h := by
  refine td_iconst (v := (-1)) dX10_warmest_24 (by decide) ?_
  exact td_ireturn rfl dX10_warmest_25 K
set_option maxRecDepth 20000 in
theorem rX10_warmest_30 {G : td_G} {d : Nat} {Post : td_P} {x1 x2 : Int32} {h : td_H} (K : td_J G d mX10_warmest Post 39 [(0, .ref 85), (1, .int x1), (2, .int x2), (3, .int (-4)), (4, .int 0), (5, .int 0)] [] h) : td_J G d mX10_warmest Post 30 [(0, .ref 85), (1, .int x1), (2, .int x2)] [] h := by
  refine td_bipush (v := (-4)) dX10_warmest_30 (by decide) ?_
  refine td_istore_n (lv2 := [(0, .ref 85), (1, .int x1), (2, .int x2), (3, .int (-4))]) dX10_warmest_32 (by decide) rfl ?_
  refine td_iconst (v := 0) dX10_warmest_33 (by decide) ?_
  refine td_istore (lv2 := [(0, .ref 85), (1, .int x1), (2, .int x2), (3, .int (-4)), (4, .int 0)]) dX10_warmest_34 (by decide) rfl ?_
  refine td_iconst (v := 0) dX10_warmest_36 (by decide) ?_
  refine td_istore (lv2 := [(0, .ref 85), (1, .int x1), (2, .int x2), (3, .int (-4)), (4, .int 0), (5, .int 0)]) dX10_warmest_37 (by decide) rfl ?_
  exact K
set_option maxRecDepth 20000 in
theorem rX10_warmest_39 {G : td_G} {d : Nat} {Post : td_P} {x1 x2 x3 x4 x5 : Int32} {h : td_H} (K : (18 ≤ x5 → ((0 ≤ x3 → ((¬ x2 = 0 → ((¬ x2 = 1 → ((¬ x2 = 2 → td_J G d mX10_warmest Post 175 [(0, .ref 85), (1, .int x1), (2, .int x2), (3, .int x3), (4, .int x4), (5, .int x5)] [.int x4] h) ∧ (x2 = 2 → td_J G d mX10_warmest Post 175 [(0, .ref 85), (1, .int x1), (2, .int x2), (3, .int x3), (4, .int x4), (5, .int x5)] [.int (1 + (jrem x3 3))] h))) ∧ (x2 = 1 → td_J G d mX10_warmest Post 175 [(0, .ref 85), (1, .int x1), (2, .int x2), (3, .int x3), (4, .int x4), (5, .int x5)] [.int (1 + (jrem (x3 / 3) 3))] h))) ∧ (x2 = 0 → td_J G d mX10_warmest Post 175 [(0, .ref 85), (1, .int x1), (2, .int x2), (3, .int x3), (4, .int x4), (5, .int x5)] [.int (3 + (x3 / 9))] h))) ∧ (¬ 0 ≤ x3 → (Post (some (.int (-4))) h)))) ∧ (¬ 18 ≤ x5 → td_J G d mX10_warmest Post 86 [(0, .ref 85), (1, .int x1), (2, .int x2), (3, .int x3), (4, .int x4), (5, .int x5)] [.ref 85] (hu (hu (hu h 87 0 (3 + (x5 / 9))) 87 1 (1 + (jrem (x5 / 3) 3))) 87 5 (1 + (jrem x5 3))))) : td_J G d mX10_warmest Post 39 [(0, .ref 85), (1, .int x1), (2, .int x2), (3, .int x3), (4, .int x4), (5, .int x5)] [] h := by
  refine td_iload 5 dX10_warmest_39 rfl ?_
  refine td_bipush (v := 18) dX10_warmest_41 (by decide) ?_
  obtain ⟨Kt, Kf⟩ := K
  refine td_icmp_ge (tgt := 125) dX10_warmest_43 (by decide) (fun q => ?_) (fun q => ?_)
  · have K := Kt q
    refine td_iload_n 3 dX10_warmest_125 rfl ?_
    obtain ⟨Kt, Kf⟩ := K
    refine td_if_ge (tgt := 132) dX10_warmest_126 (by decide) (fun q => ?_) (fun q => ?_)
    · have K := Kt q
      refine td_iload_n 2 dX10_warmest_132 rfl ?_
      obtain ⟨Kt, Kf⟩ := K
      refine td_if_ne (tgt := 145) dX10_warmest_133 (by decide) (fun q => ?_) (fun q => ?_)
      · have K := Kt q
        refine td_iload_n 2 dX10_warmest_145 rfl ?_
        refine td_iconst (v := 1) dX10_warmest_146 (by decide) ?_
        obtain ⟨Kt, Kf⟩ := K
        refine td_icmp_ne (tgt := 160) dX10_warmest_147 (by decide) (fun q => ?_) (fun q => ?_)
        · have K := Kt q
          refine td_iload_n 2 dX10_warmest_160 rfl ?_
          refine td_iconst (v := 2) dX10_warmest_161 (by decide) ?_
          obtain ⟨Kt, Kf⟩ := K
          refine td_icmp_ne (tgt := 173) dX10_warmest_162 (by decide) (fun q => ?_) (fun q => ?_)
          · have K := Kt q
            refine td_iload 4 dX10_warmest_173 rfl ?_
            exact K
          · have K := Kf q
            refine td_iconst (v := 1) dX10_warmest_165 (by decide) ?_
            refine td_iload_n 3 dX10_warmest_166 rfl ?_
            refine td_iconst (v := 3) dX10_warmest_167 (by decide) ?_
            refine td_irem dX10_warmest_168 (by decide) ?_
            refine td_iadd dX10_warmest_169 ?_
            refine td_goto (tgt := 175) dX10_warmest_170 (by decide) ?_
            exact K
        · have K := Kf q
          refine td_iconst (v := 1) dX10_warmest_150 (by decide) ?_
          refine td_iload_n 3 dX10_warmest_151 rfl ?_
          refine td_iconst (v := 3) dX10_warmest_152 (by decide) ?_
          refine td_idiv dX10_warmest_153 (by decide) ?_
          refine td_iconst (v := 3) dX10_warmest_154 (by decide) ?_
          refine td_irem dX10_warmest_155 (by decide) ?_
          refine td_iadd dX10_warmest_156 ?_
          refine td_goto (tgt := 175) dX10_warmest_157 (by decide) ?_
          exact K
      · have K := Kf q
        refine td_iconst (v := 3) dX10_warmest_136 (by decide) ?_
        refine td_iload_n 3 dX10_warmest_137 rfl ?_
        refine td_bipush (v := 9) dX10_warmest_138 (by decide) ?_
        refine td_idiv dX10_warmest_140 (by decide) ?_
        refine td_iadd dX10_warmest_141 ?_
        refine td_goto (tgt := 175) dX10_warmest_142 (by decide) ?_
        exact K
    · have K := Kf q
      refine td_bipush (v := (-4)) dX10_warmest_129 (by decide) ?_
      exact td_ireturn rfl dX10_warmest_131 K
  · have K := Kf q
    refine td_aload_n 0 dX10_warmest_46 rfl ?_
    refine gf_X10_13 rfl kp_85 dX10_warmest_47 ?_
    refine td_iconst (v := 0) dX10_warmest_50 (by decide) ?_
    refine td_iconst (v := 3) dX10_warmest_51 (by decide) ?_
    refine td_iload 5 dX10_warmest_52 rfl ?_
    refine td_bipush (v := 9) dX10_warmest_54 (by decide) ?_
    refine td_idiv dX10_warmest_56 (by decide) ?_
    refine td_iadd dX10_warmest_57 ?_
    refine td_iastc (j := 0) kp_87 (by decide) (by unfold vp_in; decide) (by decide) dX10_warmest_58 ?_
    refine td_aload_n 0 dX10_warmest_59 rfl ?_
    refine gf_X10_13 rfl kp_85 dX10_warmest_60 ?_
    refine td_iconst (v := 1) dX10_warmest_63 (by decide) ?_
    refine td_iconst (v := 1) dX10_warmest_64 (by decide) ?_
    refine td_iload 5 dX10_warmest_65 rfl ?_
    refine td_iconst (v := 3) dX10_warmest_67 (by decide) ?_
    refine td_idiv dX10_warmest_68 (by decide) ?_
    refine td_iconst (v := 3) dX10_warmest_69 (by decide) ?_
    refine td_irem dX10_warmest_70 (by decide) ?_
    refine td_iadd dX10_warmest_71 ?_
    refine td_iastc (j := 1) kp_87 (by decide) (by unfold vp_in; decide) (by decide) dX10_warmest_72 ?_
    refine td_aload_n 0 dX10_warmest_73 rfl ?_
    refine gf_X10_13 rfl kp_85 dX10_warmest_74 ?_
    refine td_iconst (v := 5) dX10_warmest_77 (by decide) ?_
    refine td_iconst (v := 1) dX10_warmest_78 (by decide) ?_
    refine td_iload 5 dX10_warmest_79 rfl ?_
    refine td_iconst (v := 3) dX10_warmest_81 (by decide) ?_
    refine td_irem dX10_warmest_82 (by decide) ?_
    refine td_iadd dX10_warmest_83 ?_
    refine td_iastc (j := 5) kp_87 (by decide) (by unfold vp_in; decide) (by decide) dX10_warmest_84 ?_
    refine td_aload_n 0 dX10_warmest_85 rfl ?_
    exact K
set_option maxRecDepth 20000 in
theorem rX10_warmest_89 {G : td_G} {d : Nat} {Post : td_P} {x1 x2 x3 x4 x5 : Int32} {h : td_H} (K : td_J G d mX10_warmest Post 90 [(0, .ref 85), (1, .int x1), (2, .int x2), (3, .int x3), (4, .int x4), (5, .int x5)] [.ref 85] h) : td_J G d mX10_warmest Post 89 [(0, .ref 85), (1, .int x1), (2, .int x2), (3, .int x3), (4, .int x4), (5, .int x5)] [] h := by
  refine td_aload_n 0 dX10_warmest_89 rfl ?_
  exact K
set_option maxRecDepth 20000 in
theorem rX10_warmest_93 {G : td_G} {d : Nat} {Post : td_P} {x1 x2 x3 x4 x5 s0 : Int32} {h : td_H} (K : (x1 < s0 → td_J G d mX10_warmest Post 119 [(0, .ref 85), (1, .int x1), (2, .int x2), (3, .int x3), (4, .int x4), (5, .int x5)] [] h) ∧ (¬ x1 < s0 → ((x3 < 0 → td_J G d mX10_warmest Post 110 [(0, .ref 85), (1, .int x1), (2, .int x2), (3, .int x3), (4, .int x4), (5, .int x5)] [] h) ∧ (¬ x3 < 0 → ((x4 ≤ (h 85 20) → td_J G d mX10_warmest Post 119 [(0, .ref 85), (1, .int x1), (2, .int x2), (3, .int x3), (4, .int x4), (5, .int x5)] [] h) ∧ (¬ x4 ≤ (h 85 20) → td_J G d mX10_warmest Post 110 [(0, .ref 85), (1, .int x1), (2, .int x2), (3, .int x3), (4, .int x4), (5, .int x5)] [] h)))))) : td_J G d mX10_warmest Post 93 [(0, .ref 85), (1, .int x1), (2, .int x2), (3, .int x3), (4, .int x4), (5, .int x5)] [.int s0] h := by
  refine td_iload_n 1 dX10_warmest_93 rfl ?_
  obtain ⟨Kt, Kf⟩ := K
  refine td_icmp_gt (tgt := 119) dX10_warmest_94 (by decide) (fun q => ?_) (fun q => ?_)
  · have K := Kt q
    exact K
  · have K := Kf q
    refine td_iload_n 3 dX10_warmest_97 rfl ?_
    obtain ⟨Kt, Kf⟩ := K
    refine td_if_lt (tgt := 110) dX10_warmest_98 (by decide) (fun q => ?_) (fun q => ?_)
    · have K := Kt q
      exact K
    · have K := Kf q
      refine td_aload_n 0 dX10_warmest_101 rfl ?_
      refine gf_X10_186 rfl kp_85 dX10_warmest_102 ?_
      refine td_iload 4 dX10_warmest_105 rfl ?_
      obtain ⟨Kt, Kf⟩ := K
      refine td_icmp_ge (tgt := 119) dX10_warmest_107 (by decide) (fun q => ?_) (fun q => ?_)
      · have K := Kt q
        exact K
      · have K := Kf q
        exact K
set_option maxRecDepth 20000 in
theorem rX10_warmest_110 {G : td_G} {d : Nat} {Post : td_P} {x1 x2 x3 x4 x5 : Int32} {h : td_H} (K : td_J G d mX10_warmest Post 119 [(0, .ref 85), (1, .int x1), (2, .int x2), (3, .int x5), (4, .int (h 85 20)), (5, .int x5)] [] h) : td_J G d mX10_warmest Post 110 [(0, .ref 85), (1, .int x1), (2, .int x2), (3, .int x3), (4, .int x4), (5, .int x5)] [] h := by
  refine td_iload 5 dX10_warmest_110 rfl ?_
  refine td_istore_n (lv2 := [(0, .ref 85), (1, .int x1), (2, .int x2), (3, .int x5), (4, .int x4), (5, .int x5)]) dX10_warmest_112 (by decide) rfl ?_
  refine td_aload_n 0 dX10_warmest_113 rfl ?_
  refine gf_X10_186 rfl kp_85 dX10_warmest_114 ?_
  refine td_istore (lv2 := [(0, .ref 85), (1, .int x1), (2, .int x2), (3, .int x5), (4, .int (h 85 20)), (5, .int x5)]) dX10_warmest_117 (by decide) rfl ?_
  exact K
set_option maxRecDepth 20000 in
theorem rX10_warmest_119 {G : td_G} {d : Nat} {Post : td_P} {x1 x2 x3 x4 x5 : Int32} {h : td_H} (K : td_J G d mX10_warmest Post 39 [(0, .ref 85), (1, .int x1), (2, .int x2), (3, .int x3), (4, .int x4), (5, .int (x5 + 1))] [] h) : td_J G d mX10_warmest Post 119 [(0, .ref 85), (1, .int x1), (2, .int x2), (3, .int x3), (4, .int x4), (5, .int x5)] [] h := by
  refine td_iinc 5 (v := x5 + 1) (lv2 := [(0, .ref 85), (1, .int x1), (2, .int x2), (3, .int x3), (4, .int x4), (5, .int (x5 + 1))]) dX10_warmest_119 rfl (congrArg (x5 + ·) (by decide)) (by decide) rfl ?_
  refine td_goto (tgt := 39) dX10_warmest_122 (by decide) ?_
  exact K
set_option maxRecDepth 20000 in
theorem rX10_warmest_175 {G : td_G} {d : Nat} {Post : td_P} {x1 x2 x3 x4 x5 s0 : Int32} {h : td_H} (K : Post (some (.int s0)) h) : td_J G d mX10_warmest Post 175 [(0, .ref 85), (1, .int x1), (2, .int x2), (3, .int x3), (4, .int x4), (5, .int x5)] [.int s0] h := by
  exact td_ireturn rfl dX10_warmest_175 K
set_option maxRecDepth 20000 in
theorem rX10_nextRow_0 {G : td_G} {d : Nat} {Post : td_P} {x1 : Int32} {h : td_H} (K : td_J G d mX10_nextRow Post 4 [(0, .ref 85), (1, .int x1), (2, .int (x1 - 2))] [] h) : td_J G d mX10_nextRow Post 0 [(0, .ref 85), (1, .int x1)] [] h := by
  refine td_iload_n 1 dX10_nextRow_0 rfl ?_
  refine td_iconst (v := 2) dX10_nextRow_1 (by decide) ?_
  refine td_isub dX10_nextRow_2 ?_
  refine td_istore_n (lv2 := [(0, .ref 85), (1, .int x1), (2, .int (x1 - 2))]) dX10_nextRow_3 (by decide) rfl ?_
  exact K
set_option maxRecDepth 20000 in
theorem rX10_nextRow_4 {G : td_G} {d : Nat} {Post : td_P} {x1 x2 : Int32} {h : td_H} (K : (x2 < 0 → td_J G d mX10_nextRow Post 31 [(0, .ref 85), (1, .int x1), (2, .int x2)] [] h) ∧ (¬ x2 < 0 → (vp_in x2 6 ∧ (vp_in (x2 + 1) 6 ∧ (((h 101 (ix x2)) ≤ (h 101 (ix (x2 + 1))) → td_J G d mX10_nextRow Post 31 [(0, .ref 85), (1, .int x1), (2, .int x2)] [] h) ∧ (¬ (h 101 (ix x2)) ≤ (h 101 (ix (x2 + 1))) → td_J G d mX10_nextRow Post 4 [(0, .ref 85), (1, .int x1), (2, .int (x2 + (-1)))] [] h)))))) : td_J G d mX10_nextRow Post 4 [(0, .ref 85), (1, .int x1), (2, .int x2)] [] h := by
  refine td_iload_n 2 dX10_nextRow_4 rfl ?_
  obtain ⟨Kt, Kf⟩ := K
  refine td_if_lt (tgt := 31) dX10_nextRow_5 (by decide) (fun q => ?_) (fun q => ?_)
  · have K := Kt q
    exact K
  · have K := Kf q
    refine td_aload_n 0 dX10_nextRow_8 rfl ?_
    refine gf_X10_55 rfl kp_85 dX10_nextRow_9 ?_
    refine td_iload_n 2 dX10_nextRow_12 rfl ?_
    obtain ⟨e13, K⟩ := K
    refine td_ialdc (j := (ix x2)) kp_101 (by decide) e13 rfl dX10_nextRow_13 ?_
    refine td_aload_n 0 dX10_nextRow_14 rfl ?_
    refine gf_X10_55 rfl kp_85 dX10_nextRow_15 ?_
    refine td_iload_n 2 dX10_nextRow_18 rfl ?_
    refine td_iconst (v := 1) dX10_nextRow_19 (by decide) ?_
    refine td_iadd dX10_nextRow_20 ?_
    obtain ⟨e21, K⟩ := K
    refine td_ialdc (j := (ix (x2 + 1))) kp_101 (by decide) e21 rfl dX10_nextRow_21 ?_
    obtain ⟨Kt, Kf⟩ := K
    refine td_icmp_le (tgt := 31) dX10_nextRow_22 (by decide) (fun q => ?_) (fun q => ?_)
    · have K := Kt q
      exact K
    · have K := Kf q
      refine td_iinc 2 (v := x2 + (-1)) (lv2 := [(0, .ref 85), (1, .int x1), (2, .int (x2 + (-1)))]) dX10_nextRow_25 rfl (congrArg (x2 + ·) (by decide)) (by decide) rfl ?_
      refine td_goto (tgt := 4) dX10_nextRow_28 (by decide) ?_
      exact K
set_option maxRecDepth 20000 in
theorem rX10_nextRow_31 {G : td_G} {d : Nat} {Post : td_P} {x1 x2 : Int32} {h : td_H} (K : (0 ≤ x2 → td_J G d mX10_nextRow Post 41 [(0, .ref 85), (1, .int x1), (2, .int x2), (3, .int (x1 - 1))] [] h) ∧ (¬ 0 ≤ x2 → (Post (some (.int 0)) h))) : td_J G d mX10_nextRow Post 31 [(0, .ref 85), (1, .int x1), (2, .int x2)] [] h := by
  refine td_iload_n 2 dX10_nextRow_31 rfl ?_
  obtain ⟨Kt, Kf⟩ := K
  refine td_if_ge (tgt := 37) dX10_nextRow_32 (by decide) (fun q => ?_) (fun q => ?_)
  · have K := Kt q
    refine td_iload_n 1 dX10_nextRow_37 rfl ?_
    refine td_iconst (v := 1) dX10_nextRow_38 (by decide) ?_
    refine td_isub dX10_nextRow_39 ?_
    refine td_istore_n (lv2 := [(0, .ref 85), (1, .int x1), (2, .int x2), (3, .int (x1 - 1))]) dX10_nextRow_40 (by decide) rfl ?_
    exact K
  · have K := Kf q
    refine td_iconst (v := 0) dX10_nextRow_35 (by decide) ?_
    exact td_zreturn rfl rfl dX10_nextRow_36 K
set_option maxRecDepth 20000 in
theorem rX10_nextRow_41 {G : td_G} {d : Nat} {Post : td_P} {x1 x2 x3 : Int32} {h : td_H} (K : vp_in x3 6 ∧ (vp_in x2 6 ∧ (((h 101 (ix x2)) ≤ (h 101 (ix x3)) → td_J G d mX10_nextRow Post 65 [(0, .ref 85), (1, .int x1), (2, .int x2), (3, .int x3)] [.int x3, .int x2, .ref 85] h) ∧ (¬ (h 101 (ix x2)) ≤ (h 101 (ix x3)) → td_J G d mX10_nextRow Post 41 [(0, .ref 85), (1, .int x1), (2, .int x2), (3, .int (x3 + (-1)))] [] h)))) : td_J G d mX10_nextRow Post 41 [(0, .ref 85), (1, .int x1), (2, .int x2), (3, .int x3)] [] h := by
  refine td_aload_n 0 dX10_nextRow_41 rfl ?_
  refine gf_X10_55 rfl kp_85 dX10_nextRow_42 ?_
  refine td_iload_n 3 dX10_nextRow_45 rfl ?_
  obtain ⟨e46, K⟩ := K
  refine td_ialdc (j := (ix x3)) kp_101 (by decide) e46 rfl dX10_nextRow_46 ?_
  refine td_aload_n 0 dX10_nextRow_47 rfl ?_
  refine gf_X10_55 rfl kp_85 dX10_nextRow_48 ?_
  refine td_iload_n 2 dX10_nextRow_51 rfl ?_
  obtain ⟨e52, K⟩ := K
  refine td_ialdc (j := (ix x2)) kp_101 (by decide) e52 rfl dX10_nextRow_52 ?_
  obtain ⟨Kt, Kf⟩ := K
  refine td_icmp_ge (tgt := 62) dX10_nextRow_53 (by decide) (fun q => ?_) (fun q => ?_)
  · have K := Kt q
    refine td_aload_n 0 dX10_nextRow_62 rfl ?_
    refine td_iload_n 2 dX10_nextRow_63 rfl ?_
    refine td_iload_n 3 dX10_nextRow_64 rfl ?_
    exact K
  · have K := Kf q
    refine td_iinc 3 (v := x3 + (-1)) (lv2 := [(0, .ref 85), (1, .int x1), (2, .int x2), (3, .int (x3 + (-1)))]) dX10_nextRow_56 rfl (congrArg (x3 + ·) (by decide)) (by decide) rfl ?_
    refine td_goto (tgt := 41) dX10_nextRow_59 (by decide) ?_
    exact K
set_option maxRecDepth 20000 in
theorem rX10_nextRow_68 {G : td_G} {d : Nat} {Post : td_P} {x1 x2 x3 : Int32} {h : td_H} (K : td_J G d mX10_nextRow Post 78 [(0, .ref 85), (1, .int x1), (2, .int x2), (3, .int x3), (4, .int (x2 + 1)), (5, .int (x1 - 1))] [] h) : td_J G d mX10_nextRow Post 68 [(0, .ref 85), (1, .int x1), (2, .int x2), (3, .int x3)] [] h := by
  refine td_iload_n 2 dX10_nextRow_68 rfl ?_
  refine td_iconst (v := 1) dX10_nextRow_69 (by decide) ?_
  refine td_iadd dX10_nextRow_70 ?_
  refine td_istore (lv2 := [(0, .ref 85), (1, .int x1), (2, .int x2), (3, .int x3), (4, .int (x2 + 1))]) dX10_nextRow_71 (by decide) rfl ?_
  refine td_iload_n 1 dX10_nextRow_73 rfl ?_
  refine td_iconst (v := 1) dX10_nextRow_74 (by decide) ?_
  refine td_isub dX10_nextRow_75 ?_
  refine td_istore (lv2 := [(0, .ref 85), (1, .int x1), (2, .int x2), (3, .int x3), (4, .int (x2 + 1)), (5, .int (x1 - 1))]) dX10_nextRow_76 (by decide) rfl ?_
  exact K
set_option maxRecDepth 20000 in
theorem rX10_nextRow_78 {G : td_G} {d : Nat} {Post : td_P} {x1 x2 x3 x4 x5 : Int32} {h : td_H} (K : (x5 ≤ x4 → (Post (some (.int 1)) h)) ∧ (¬ x5 ≤ x4 → td_J G d mX10_nextRow Post 90 [(0, .ref 85), (1, .int x1), (2, .int x2), (3, .int x3), (4, .int x4), (5, .int x5)] [.int x5, .int x4, .ref 85] h)) : td_J G d mX10_nextRow Post 78 [(0, .ref 85), (1, .int x1), (2, .int x2), (3, .int x3), (4, .int x4), (5, .int x5)] [] h := by
  refine td_iload 4 dX10_nextRow_78 rfl ?_
  refine td_iload 5 dX10_nextRow_80 rfl ?_
  obtain ⟨Kt, Kf⟩ := K
  refine td_icmp_ge (tgt := 102) dX10_nextRow_82 (by decide) (fun q => ?_) (fun q => ?_)
  · have K := Kt q
    refine td_iconst (v := 1) dX10_nextRow_102 (by decide) ?_
    exact td_zreturn rfl rfl dX10_nextRow_103 K
  · have K := Kf q
    refine td_aload_n 0 dX10_nextRow_85 rfl ?_
    refine td_iload 4 dX10_nextRow_86 rfl ?_
    refine td_iload 5 dX10_nextRow_88 rfl ?_
    exact K
set_option maxRecDepth 20000 in
theorem rX10_nextRow_93 {G : td_G} {d : Nat} {Post : td_P} {x1 x2 x3 x4 x5 : Int32} {h : td_H} (K : td_J G d mX10_nextRow Post 78 [(0, .ref 85), (1, .int x1), (2, .int x2), (3, .int x3), (4, .int (x4 + 1)), (5, .int (x5 + (-1)))] [] h) : td_J G d mX10_nextRow Post 93 [(0, .ref 85), (1, .int x1), (2, .int x2), (3, .int x3), (4, .int x4), (5, .int x5)] [] h := by
  refine td_iinc 4 (v := x4 + 1) (lv2 := [(0, .ref 85), (1, .int x1), (2, .int x2), (3, .int x3), (4, .int (x4 + 1)), (5, .int x5)]) dX10_nextRow_93 rfl (congrArg (x4 + ·) (by decide)) (by decide) rfl ?_
  refine td_iinc 5 (v := x5 + (-1)) (lv2 := [(0, .ref 85), (1, .int x1), (2, .int x2), (3, .int x3), (4, .int (x4 + 1)), (5, .int (x5 + (-1)))]) dX10_nextRow_96 rfl (congrArg (x5 + ·) (by decide)) (by decide) rfl ?_
  refine td_goto (tgt := 78) dX10_nextRow_99 (by decide) ?_
  exact K
set_option maxRecDepth 20000 in
theorem rX10_swap_0 {G : td_G} {d : Nat} {Post : td_P} {x1 x2 : Int32} {h : td_H} (K : vp_in x1 6 ∧ (vp_in x2 6 ∧ (vp_in x1 6 ∧ (vp_in x2 6 ∧ (Post none (hu (hu h 101 (ix x1) (h 101 (ix x2))) 101 (ix x2) (h 101 (ix x1)))))))) : td_J G d mX10_swap Post 0 [(0, .ref 85), (1, .int x1), (2, .int x2)] [] h := by
  refine td_aload_n 0 dX10_swap_0 rfl ?_
  refine gf_X10_55 rfl kp_85 dX10_swap_1 ?_
  refine td_iload_n 1 dX10_swap_4 rfl ?_
  obtain ⟨e5, K⟩ := K
  refine td_ialdc (j := (ix x1)) kp_101 (by decide) e5 rfl dX10_swap_5 ?_
  refine td_istore_n (lv2 := [(0, .ref 85), (1, .int x1), (2, .int x2), (3, .int (h 101 (ix x1)))]) dX10_swap_6 (by decide) rfl ?_
  refine td_aload_n 0 dX10_swap_7 rfl ?_
  refine gf_X10_55 rfl kp_85 dX10_swap_8 ?_
  refine td_iload_n 1 dX10_swap_11 rfl ?_
  refine td_aload_n 0 dX10_swap_12 rfl ?_
  refine gf_X10_55 rfl kp_85 dX10_swap_13 ?_
  refine td_iload_n 2 dX10_swap_16 rfl ?_
  obtain ⟨e17, K⟩ := K
  refine td_ialdc (j := (ix x2)) kp_101 (by decide) e17 rfl dX10_swap_17 ?_
  obtain ⟨e18, K⟩ := K
  refine td_iastc (j := (ix x1)) kp_101 (by decide) e18 rfl dX10_swap_18 ?_
  refine td_aload_n 0 dX10_swap_19 rfl ?_
  refine gf_X10_55 rfl kp_85 dX10_swap_20 ?_
  refine td_iload_n 2 dX10_swap_23 rfl ?_
  refine td_iload_n 3 dX10_swap_24 rfl ?_
  obtain ⟨e25, K⟩ := K
  refine td_iastc (j := (ix x2)) kp_101 (by decide) e25 rfl dX10_swap_25 ?_
  exact td_return rfl dX10_swap_26 K
set_option maxRecDepth 20000 in
theorem rX10_orders_0 {G : td_G} {d : Nat} {Post : td_P} {x1 x2 : Int32} {h : td_H} (K : td_J G d mX10_orders Post 1 [(0, .ref 85), (1, .int x1), (2, .int x2)] [.int x1] h) : td_J G d mX10_orders Post 0 [(0, .ref 85), (1, .int x1), (2, .int x2)] [] h := by
  refine td_iload_n 1 dX10_orders_0 rfl ?_
  exact K
set_option maxRecDepth 20000 in
theorem rX10_orders_4 {G : td_G} {d : Nat} {Post : td_P} {x1 x2 s0 : Int32} {h : td_H} (K : td_J G d mX10_orders Post 20 [(0, .ref 85), (1, .int x1), (2, .int x2), (3, .int s0)] [.long (((jshl 1 (h 86 9)) - 1).toInt64), .long 1, .long x1.toInt64] h) : td_J G d mX10_orders Post 4 [(0, .ref 85), (1, .int x1), (2, .int x2)] [.int s0] h := by
  refine td_istore_n (lv2 := [(0, .ref 85), (1, .int x1), (2, .int x2), (3, .int s0)]) dX10_orders_4 (by decide) rfl ?_
  refine td_iload_n 1 dX10_orders_5 rfl ?_
  refine td_i2l dX10_orders_6 ?_
  refine td_lconst (v := 1) dX10_orders_7 (by decide) ?_
  refine td_iconst (v := 1) dX10_orders_8 (by decide) ?_
  refine td_aload_n 0 dX10_orders_9 rfl ?_
  refine gf_X10_7 rfl kp_85 dX10_orders_10 ?_
  refine td_bipush (v := 9) dX10_orders_13 (by decide) ?_
  refine td_ialdc (j := 9) kp_86 (by decide) (by unfold vp_in; decide) (by decide) dX10_orders_15 ?_
  refine td_ishl dX10_orders_16 ?_
  refine td_iconst (v := 1) dX10_orders_17 (by decide) ?_
  refine td_isub dX10_orders_18 ?_
  refine td_i2l dX10_orders_19 ?_
  exact K
set_option maxRecDepth 20000 in
theorem rX10_orders_23 {G : td_G} {d : Nat} {Post : td_P} {x1 x2 x3 s0 : Int32} {h : td_H} (K : (s0 = 0 → td_J G d mX10_orders Post 47 [(0, .ref 85), (1, .int x1), (2, .int x2), (3, .int x3)] [] h) ∧ (¬ s0 = 0 → ((6 < x3 → td_J G d mX10_orders Post 47 [(0, .ref 85), (1, .int x1), (2, .int x2), (3, .int x3)] [] h) ∧ (¬ 6 < x3 → td_J G d mX10_orders Post 41 [(0, .ref 85), (1, .int x1), (2, .int x2), (3, .int x3)] [.long ((x3 - 1).toInt64), .long (-2), .long x2.toInt64] h)))) : td_J G d mX10_orders Post 23 [(0, .ref 85), (1, .int x1), (2, .int x2), (3, .int x3)] [.int s0] h := by
  obtain ⟨Kt, Kf⟩ := K
  refine td_if_eq (tgt := 47) dX10_orders_23 (by decide) (fun q => ?_) (fun q => ?_)
  · have K := Kt q
    exact K
  · have K := Kf q
    refine td_iload_n 3 dX10_orders_26 rfl ?_
    refine td_bipush (v := 6) dX10_orders_27 (by decide) ?_
    obtain ⟨Kt, Kf⟩ := K
    refine td_icmp_gt (tgt := 47) dX10_orders_29 (by decide) (fun q => ?_) (fun q => ?_)
    · have K := Kt q
      exact K
    · have K := Kf q
      refine td_iload_n 2 dX10_orders_32 rfl ?_
      refine td_i2l dX10_orders_33 ?_
      refine td_ldc2 (v := (-2)) kw_X10_245 dX10_orders_34 ?_
      refine td_iload_n 3 dX10_orders_37 rfl ?_
      refine td_iconst (v := 1) dX10_orders_38 (by decide) ?_
      refine td_isub dX10_orders_39 ?_
      refine td_i2l dX10_orders_40 ?_
      exact K
set_option maxRecDepth 20000 in
theorem rX10_orders_44 {G : td_G} {d : Nat} {Post : td_P} {x1 x2 x3 s0 : Int32} {h : td_H} (K : (¬ s0 = 0 → td_J G d mX10_orders Post 50 [(0, .ref 85), (1, .int x1), (2, .int x2), (3, .int x3)] [.ref 85] h) ∧ (s0 = 0 → td_J G d mX10_orders Post 47 [(0, .ref 85), (1, .int x1), (2, .int x2), (3, .int x3)] [] h)) : td_J G d mX10_orders Post 44 [(0, .ref 85), (1, .int x1), (2, .int x2), (3, .int x3)] [.int s0] h := by
  obtain ⟨Kt, Kf⟩ := K
  refine td_if_ne (tgt := 49) dX10_orders_44 (by decide) (fun q => ?_) (fun q => ?_)
  · have K := Kt q
    refine td_aload_n 0 dX10_orders_49 rfl ?_
    exact K
  · have K := Kf q
    exact K
set_option maxRecDepth 20000 in
theorem rX10_orders_47 {G : td_G} {d : Nat} {Post : td_P} {x1 x2 x3 : Int32} {h : td_H} (K : Post (some (.int (-1))) h) : td_J G d mX10_orders Post 47 [(0, .ref 85), (1, .int x1), (2, .int x2), (3, .int x3)] [] h := by
  refine td_iconst (v := (-1)) dX10_orders_47 (by decide) ?_
  exact td_ireturn rfl dX10_orders_48 K
set_option maxRecDepth 20000 in
theorem rX10_orders_53 {G : td_G} {d : Nat} {Post : td_P} {x1 x2 x3 : Int32} {h : td_H} (K : td_J G d mX10_orders Post 59 [(0, .ref 85), (1, .int x1), (2, .int x2), (3, .int x3), (4, .int 0), (5, .int 0)] [] h) : td_J G d mX10_orders Post 53 [(0, .ref 85), (1, .int x1), (2, .int x2), (3, .int x3)] [] h := by
  refine td_iconst (v := 0) dX10_orders_53 (by decide) ?_
  refine td_istore (lv2 := [(0, .ref 85), (1, .int x1), (2, .int x2), (3, .int x3), (4, .int 0)]) dX10_orders_54 (by decide) rfl ?_
  refine td_iconst (v := 0) dX10_orders_56 (by decide) ?_
  refine td_istore (lv2 := [(0, .ref 85), (1, .int x1), (2, .int x2), (3, .int x3), (4, .int 0), (5, .int 0)]) dX10_orders_57 (by decide) rfl ?_
  exact K
set_option maxRecDepth 20000 in
theorem rX10_orders_59 {G : td_G} {d : Nat} {Post : td_P} {x1 x2 x3 x4 x5 : Int32} {h : td_H} (K : ((h 86 9) ≤ x5 → td_J G d mX10_orders Post 101 [(0, .ref 85), (1, .int x1), (2, .int x2), (3, .int x3), (4, .int x4), (5, .int 0)] [] h) ∧ (¬ (h 86 9) ≤ x5 → td_J G d mX10_orders Post 74 [(0, .ref 85), (1, .int x1), (2, .int x2), (3, .int x3), (4, .int x4), (5, .int x5)] [.int x5, .int x1] h)) : td_J G d mX10_orders Post 59 [(0, .ref 85), (1, .int x1), (2, .int x2), (3, .int x3), (4, .int x4), (5, .int x5)] [] h := by
  refine td_iload 5 dX10_orders_59 rfl ?_
  refine td_aload_n 0 dX10_orders_61 rfl ?_
  refine gf_X10_7 rfl kp_85 dX10_orders_62 ?_
  refine td_bipush (v := 9) dX10_orders_65 (by decide) ?_
  refine td_ialdc (j := 9) kp_86 (by decide) (by unfold vp_in; decide) (by decide) dX10_orders_67 ?_
  obtain ⟨Kt, Kf⟩ := K
  refine td_icmp_ge (tgt := 98) dX10_orders_68 (by decide) (fun q => ?_) (fun q => ?_)
  · have K := Kt q
    refine td_iconst (v := 0) dX10_orders_98 (by decide) ?_
    refine td_istore (lv2 := [(0, .ref 85), (1, .int x1), (2, .int x2), (3, .int x3), (4, .int x4), (5, .int 0)]) dX10_orders_99 (by decide) rfl ?_
    exact K
  · have K := Kf q
    refine td_iload_n 1 dX10_orders_71 rfl ?_
    refine td_iload 5 dX10_orders_72 rfl ?_
    exact K
set_option maxRecDepth 20000 in
theorem rX10_orders_77 {G : td_G} {d : Nat} {Post : td_P} {x1 x2 x3 x4 x5 s0 : Int32} {h : td_H} (K : (s0 = 0 → td_J G d mX10_orders Post 92 [(0, .ref 85), (1, .int x1), (2, .int x2), (3, .int x3), (4, .int x4), (5, .int x5)] [] h) ∧ (¬ s0 = 0 → (vp_in x4 6 ∧ (td_J G d mX10_orders Post 92 [(0, .ref 85), (1, .int x1), (2, .int x2), (3, .int x3), (4, .int (x4 + 1)), (5, .int x5)] [] (hu h 99 (ix x4) x5))))) : td_J G d mX10_orders Post 77 [(0, .ref 85), (1, .int x1), (2, .int x2), (3, .int x3), (4, .int x4), (5, .int x5)] [.int s0] h := by
  obtain ⟨Kt, Kf⟩ := K
  refine td_if_eq (tgt := 92) dX10_orders_77 (by decide) (fun q => ?_) (fun q => ?_)
  · have K := Kt q
    exact K
  · have K := Kf q
    refine td_aload_n 0 dX10_orders_80 rfl ?_
    refine gf_X10_49 rfl kp_85 dX10_orders_81 ?_
    refine td_iload 4 dX10_orders_84 rfl ?_
    refine td_iload 5 dX10_orders_86 rfl ?_
    obtain ⟨e88, K⟩ := K
    refine td_iastc (j := (ix x4)) kp_99 (by decide) e88 rfl dX10_orders_88 ?_
    refine td_iinc 4 (v := x4 + 1) (lv2 := [(0, .ref 85), (1, .int x1), (2, .int x2), (3, .int x3), (4, .int (x4 + 1)), (5, .int x5)]) dX10_orders_89 rfl (congrArg (x4 + ·) (by decide)) (by decide) rfl ?_
    exact K
set_option maxRecDepth 20000 in
theorem rX10_orders_92 {G : td_G} {d : Nat} {Post : td_P} {x1 x2 x3 x4 x5 : Int32} {h : td_H} (K : td_J G d mX10_orders Post 59 [(0, .ref 85), (1, .int x1), (2, .int x2), (3, .int x3), (4, .int x4), (5, .int (x5 + 1))] [] h) : td_J G d mX10_orders Post 92 [(0, .ref 85), (1, .int x1), (2, .int x2), (3, .int x3), (4, .int x4), (5, .int x5)] [] h := by
  refine td_iinc 5 (v := x5 + 1) (lv2 := [(0, .ref 85), (1, .int x1), (2, .int x2), (3, .int x3), (4, .int x4), (5, .int (x5 + 1))]) dX10_orders_92 rfl (congrArg (x5 + ·) (by decide)) (by decide) rfl ?_
  refine td_goto (tgt := 59) dX10_orders_95 (by decide) ?_
  exact K
set_option maxRecDepth 20000 in
theorem rX10_orders_101 {G : td_G} {d : Nat} {Post : td_P} {x1 x2 x3 x4 x5 : Int32} {h : td_H} (K : (x3 ≤ x5 → td_J G d mX10_orders Post 213 [(0, .ref 85), (1, .int x1), (2, .int x2), (3, .int x3), (4, .int x4), (5, .int 0), (6, .int 0), (7, .int 0), (8, .int 1)] [] h) ∧ (¬ x3 ≤ x5 → td_J G d mX10_orders Post 111 [(0, .ref 85), (1, .int x1), (2, .int x2), (3, .int x3), (4, .int x4), (5, .int x5), (6, .int x5)] [] h)) : td_J G d mX10_orders Post 101 [(0, .ref 85), (1, .int x1), (2, .int x2), (3, .int x3), (4, .int x4), (5, .int x5)] [] h := by
  refine td_iload 5 dX10_orders_101 rfl ?_
  refine td_iload_n 3 dX10_orders_103 rfl ?_
  obtain ⟨Kt, Kf⟩ := K
  refine td_icmp_ge (tgt := 201) dX10_orders_104 (by decide) (fun q => ?_) (fun q => ?_)
  · have K := Kt q
    refine td_iconst (v := 0) dX10_orders_201 (by decide) ?_
    refine td_istore (lv2 := [(0, .ref 85), (1, .int x1), (2, .int x2), (3, .int x3), (4, .int x4), (5, .int 0)]) dX10_orders_202 (by decide) rfl ?_
    refine td_iconst (v := 0) dX10_orders_204 (by decide) ?_
    refine td_istore (lv2 := [(0, .ref 85), (1, .int x1), (2, .int x2), (3, .int x3), (4, .int x4), (5, .int 0), (6, .int 0)]) dX10_orders_205 (by decide) rfl ?_
    refine td_iconst (v := 0) dX10_orders_207 (by decide) ?_
    refine td_istore (lv2 := [(0, .ref 85), (1, .int x1), (2, .int x2), (3, .int x3), (4, .int x4), (5, .int 0), (6, .int 0), (7, .int 0)]) dX10_orders_208 (by decide) rfl ?_
    refine td_iconst (v := 1) dX10_orders_210 (by decide) ?_
    refine td_istore (lv2 := [(0, .ref 85), (1, .int x1), (2, .int x2), (3, .int x3), (4, .int x4), (5, .int 0), (6, .int 0), (7, .int 0), (8, .int 1)]) dX10_orders_211 (by decide) rfl ?_
    exact K
  · have K := Kf q
    refine td_iload 5 dX10_orders_107 rfl ?_
    refine td_istore (lv2 := [(0, .ref 85), (1, .int x1), (2, .int x2), (3, .int x3), (4, .int x4), (5, .int x5), (6, .int x5)]) dX10_orders_109 (by decide) rfl ?_
    exact K
set_option maxRecDepth 20000 in
theorem rX10_orders_111 {G : td_G} {d : Nat} {Post : td_P} {x1 x2 x3 x4 x5 x6 : Int32} {h : td_H} (K : (x6 ≤ 0 → td_J G d mX10_orders Post 162 [(0, .ref 85), (1, .int x1), (2, .int x2), (3, .int x3), (4, .int x4), (5, .int x5), (6, .int x6)] [] h) ∧ (¬ x6 ≤ 0 → (vp_in (x6 - 1) 6 ∧ (vp_in x5 6 ∧ (td_J G d mX10_orders Post 134 [(0, .ref 85), (1, .int x1), (2, .int x2), (3, .int x3), (4, .int x4), (5, .int x5), (6, .int x6)] [.int 0, .int (h 99 (ix x5)), .ref 85, .int (h 100 (ix (x6 - 1)))] h))))) : td_J G d mX10_orders Post 111 [(0, .ref 85), (1, .int x1), (2, .int x2), (3, .int x3), (4, .int x4), (5, .int x5), (6, .int x6)] [] h := by
  refine td_iload 6 dX10_orders_111 rfl ?_
  obtain ⟨Kt, Kf⟩ := K
  refine td_if_le (tgt := 162) dX10_orders_113 (by decide) (fun q => ?_) (fun q => ?_)
  · have K := Kt q
    exact K
  · have K := Kf q
    refine td_aload_n 0 dX10_orders_116 rfl ?_
    refine gf_X10_52 rfl kp_85 dX10_orders_117 ?_
    refine td_iload 6 dX10_orders_120 rfl ?_
    refine td_iconst (v := 1) dX10_orders_122 (by decide) ?_
    refine td_isub dX10_orders_123 ?_
    obtain ⟨e124, K⟩ := K
    refine td_ialdc (j := (ix (x6 - 1))) kp_100 (by decide) e124 rfl dX10_orders_124 ?_
    refine td_aload_n 0 dX10_orders_125 rfl ?_
    refine td_aload_n 0 dX10_orders_126 rfl ?_
    refine gf_X10_49 rfl kp_85 dX10_orders_127 ?_
    refine td_iload 5 dX10_orders_130 rfl ?_
    obtain ⟨e132, K⟩ := K
    refine td_ialdc (j := (ix x5)) kp_99 (by decide) e132 rfl dX10_orders_132 ?_
    refine td_iconst (v := 0) dX10_orders_133 (by decide) ?_
    exact K
set_option maxRecDepth 20000 in
theorem rX10_orders_137 {G : td_G} {d : Nat} {Post : td_P} {x1 x2 x3 x4 x5 x6 s0 s1 : Int32} {h : td_H} (K : (s0 ≤ s1 → td_J G d mX10_orders Post 162 [(0, .ref 85), (1, .int x1), (2, .int x2), (3, .int x3), (4, .int x4), (5, .int x5), (6, .int x6)] [] h) ∧ (¬ s0 ≤ s1 → (vp_in (x6 - 1) 6 ∧ (vp_in x6 6 ∧ (td_J G d mX10_orders Post 111 [(0, .ref 85), (1, .int x1), (2, .int x2), (3, .int x3), (4, .int x4), (5, .int x5), (6, .int (x6 + (-1)))] [] (hu h 100 (ix x6) (h 100 (ix (x6 - 1))))))))) : td_J G d mX10_orders Post 137 [(0, .ref 85), (1, .int x1), (2, .int x2), (3, .int x3), (4, .int x4), (5, .int x5), (6, .int x6)] [.int s1, .int s0] h := by
  obtain ⟨Kt, Kf⟩ := K
  refine td_icmp_le (tgt := 162) dX10_orders_137 (by decide) (fun q => ?_) (fun q => ?_)
  · have K := Kt q
    exact K
  · have K := Kf q
    refine td_aload_n 0 dX10_orders_140 rfl ?_
    refine gf_X10_52 rfl kp_85 dX10_orders_141 ?_
    refine td_iload 6 dX10_orders_144 rfl ?_
    refine td_aload_n 0 dX10_orders_146 rfl ?_
    refine gf_X10_52 rfl kp_85 dX10_orders_147 ?_
    refine td_iload 6 dX10_orders_150 rfl ?_
    refine td_iconst (v := 1) dX10_orders_152 (by decide) ?_
    refine td_isub dX10_orders_153 ?_
    obtain ⟨e154, K⟩ := K
    refine td_ialdc (j := (ix (x6 - 1))) kp_100 (by decide) e154 rfl dX10_orders_154 ?_
    obtain ⟨e155, K⟩ := K
    refine td_iastc (j := (ix x6)) kp_100 (by decide) e155 rfl dX10_orders_155 ?_
    refine td_iinc 6 (v := x6 + (-1)) (lv2 := [(0, .ref 85), (1, .int x1), (2, .int x2), (3, .int x3), (4, .int x4), (5, .int x5), (6, .int (x6 + (-1)))]) dX10_orders_156 rfl (congrArg (x6 + ·) (by decide)) (by decide) rfl ?_
    refine td_goto (tgt := 111) dX10_orders_159 (by decide) ?_
    exact K
set_option maxRecDepth 20000 in
theorem rX10_orders_162 {G : td_G} {d : Nat} {Post : td_P} {x1 x2 x3 x4 x5 x6 : Int32} {h : td_H} (K : vp_in x5 6 ∧ (td_J G d mX10_orders Post 177 [(0, .ref 85), (1, .int x1), (2, .int x2), (3, .int x3), (4, .int x4), (5, .int x5), (6, .int x6)] [.int 0, .int (h 99 (ix x5)), .ref 85, .int x6, .ref 100] h)) : td_J G d mX10_orders Post 162 [(0, .ref 85), (1, .int x1), (2, .int x2), (3, .int x3), (4, .int x4), (5, .int x5), (6, .int x6)] [] h := by
  refine td_aload_n 0 dX10_orders_162 rfl ?_
  refine gf_X10_52 rfl kp_85 dX10_orders_163 ?_
  refine td_iload 6 dX10_orders_166 rfl ?_
  refine td_aload_n 0 dX10_orders_168 rfl ?_
  refine td_aload_n 0 dX10_orders_169 rfl ?_
  refine gf_X10_49 rfl kp_85 dX10_orders_170 ?_
  refine td_iload 5 dX10_orders_173 rfl ?_
  obtain ⟨e175, K⟩ := K
  refine td_ialdc (j := (ix x5)) kp_99 (by decide) e175 rfl dX10_orders_175 ?_
  refine td_iconst (v := 0) dX10_orders_176 (by decide) ?_
  exact K
set_option maxRecDepth 20000 in
theorem rX10_orders_180 {G : td_G} {d : Nat} {Post : td_P} {a0 na0 : Nat} {x1 x2 x3 x4 x5 x6 s1 s2 : Int32} {h : td_H} (ha0 : td_kd a0 = 100 + na0) (ga0 : na0 ≠ 899) (K : vp_in s1 na0 ∧ (vp_in x5 6 ∧ (vp_in x5 6 ∧ (td_J G d mX10_orders Post 101 [(0, .ref 85), (1, .int x1), (2, .int x2), (3, .int x3), (4, .int x4), (5, .int (x5 + 1))] [] (hu (hu h a0 (ix s1) s2) 101 (ix x5) ((hu h a0 (ix s1) s2) 99 (ix x5))))))) : td_J G d mX10_orders Post 180 [(0, .ref 85), (1, .int x1), (2, .int x2), (3, .int x3), (4, .int x4), (5, .int x5), (6, .int x6)] [.int s2, .int s1, .ref a0] h := by
  obtain ⟨e180, K⟩ := K
  refine td_iastc (j := (ix s1)) ha0 ga0 e180 rfl dX10_orders_180 ?_
  refine td_aload_n 0 dX10_orders_181 rfl ?_
  refine gf_X10_55 rfl kp_85 dX10_orders_182 ?_
  refine td_iload 5 dX10_orders_185 rfl ?_
  refine td_aload_n 0 dX10_orders_187 rfl ?_
  refine gf_X10_49 rfl kp_85 dX10_orders_188 ?_
  refine td_iload 5 dX10_orders_191 rfl ?_
  obtain ⟨e193, K⟩ := K
  refine td_ialdc (j := (ix x5)) kp_99 (by decide) e193 rfl dX10_orders_193 ?_
  obtain ⟨e194, K⟩ := K
  refine td_iastc (j := (ix x5)) kp_101 (by decide) e194 rfl dX10_orders_194 ?_
  refine td_iinc 5 (v := x5 + 1) (lv2 := [(0, .ref 85), (1, .int x1), (2, .int x2), (3, .int x3), (4, .int x4), (5, .int (x5 + 1)), (6, .int x6)]) dX10_orders_195 rfl (congrArg (x5 + ·) (by decide)) (by decide) rfl ?_
  refine td_goto (tgt := 101) dX10_orders_198 (by decide) ?_
  refine td_drop [0, 1, 2, 3, 4, 5] rfl ?_
  exact K
set_option maxRecDepth 20000 in
theorem rX10_orders_213 {G : td_G} {d : Nat} {Post : td_P} {x1 x2 x3 x4 x5 x6 x7 x8 : Int32} {h : td_H} (K : (x8 = 0 → ((¬ x2 = (-1) → ((¬ x2 = (-2) → (vp_in x2 6 ∧ (td_J G d mX10_orders Post 371 [(0, .ref 85), (1, .int x1), (2, .int x2), (3, .int x3), (4, .int x4), (5, .int x5), (6, .int x6), (7, .int x7), (8, .int x8)] [.int (h 102 (ix x2))] h))) ∧ (x2 = (-2) → td_J G d mX10_orders Post 371 [(0, .ref 85), (1, .int x1), (2, .int x2), (3, .int x3), (4, .int x4), (5, .int x5), (6, .int x6), (7, .int x7), (8, .int x8)] [.int x6] h))) ∧ (x2 = (-1) → td_J G d mX10_orders Post 371 [(0, .ref 85), (1, .int x1), (2, .int x2), (3, .int x3), (4, .int x4), (5, .int x5), (6, .int x6), (7, .int x7), (8, .int x8)] [.int x5] h))) ∧ (¬ x8 = 0 → td_J G d mX10_orders Post 221 [(0, .ref 85), (1, .int x1), (2, .int x2), (3, .int x3), (4, .int x4), (5, .int x5), (6, .int x6), (7, .int x7), (8, .int x8), (9, .int 0)] [] h)) : td_J G d mX10_orders Post 213 [(0, .ref 85), (1, .int x1), (2, .int x2), (3, .int x3), (4, .int x4), (5, .int x5), (6, .int x6), (7, .int x7), (8, .int x8)] [] h := by
  refine td_iload 8 dX10_orders_213 rfl ?_
  obtain ⟨Kt, Kf⟩ := K
  refine td_if_eq (tgt := 344) dX10_orders_215 (by decide) (fun q => ?_) (fun q => ?_)
  · have K := Kt q
    refine td_iload_n 2 dX10_orders_344 rfl ?_
    refine td_iconst (v := (-1)) dX10_orders_345 (by decide) ?_
    obtain ⟨Kt, Kf⟩ := K
    refine td_icmp_ne (tgt := 354) dX10_orders_346 (by decide) (fun q => ?_) (fun q => ?_)
    · have K := Kt q
      refine td_iload_n 2 dX10_orders_354 rfl ?_
      refine td_bipush (v := (-2)) dX10_orders_355 (by decide) ?_
      obtain ⟨Kt, Kf⟩ := K
      refine td_icmp_ne (tgt := 365) dX10_orders_357 (by decide) (fun q => ?_) (fun q => ?_)
      · have K := Kt q
        refine td_aload_n 0 dX10_orders_365 rfl ?_
        refine gf_X10_58 rfl kp_85 dX10_orders_366 ?_
        refine td_iload_n 2 dX10_orders_369 rfl ?_
        obtain ⟨e370, K⟩ := K
        refine td_ialdc (j := (ix x2)) kp_102 (by decide) e370 rfl dX10_orders_370 ?_
        exact K
      · have K := Kf q
        refine td_iload 6 dX10_orders_360 rfl ?_
        refine td_goto (tgt := 371) dX10_orders_362 (by decide) ?_
        exact K
    · have K := Kf q
      refine td_iload 5 dX10_orders_349 rfl ?_
      refine td_goto (tgt := 371) dX10_orders_351 (by decide) ?_
      exact K
  · have K := Kf q
    refine td_iconst (v := 0) dX10_orders_218 (by decide) ?_
    refine td_istore (lv2 := [(0, .ref 85), (1, .int x1), (2, .int x2), (3, .int x3), (4, .int x4), (5, .int x5), (6, .int x6), (7, .int x7), (8, .int x8), (9, .int 0)]) dX10_orders_219 (by decide) rfl ?_
    exact K
set_option maxRecDepth 20000 in
theorem rX10_orders_221 {G : td_G} {d : Nat} {Post : td_P} {x1 x2 x3 x4 x5 x6 x7 x8 x9 : Int32} {h : td_H} (K : (x3 ≤ x9 → td_J G d mX10_orders Post 253 [(0, .ref 85), (1, .int x1), (2, .int x2), (3, .int x3), (4, .int x4), (5, .int x5), (6, .int x6), (7, .int x7), (8, .int x8), (9, .int x9)] [.ref 85] h) ∧ (¬ x3 ≤ x9 → (vp_in x9 6 ∧ (vp_in x9 6 ∧ (vp_in (h 101 (ix x9)) 12 ∧ (td_J G d mX10_orders Post 221 [(0, .ref 85), (1, .int x1), (2, .int x2), (3, .int x3), (4, .int x4), (5, .int x5), (6, .int x6), (7, .int x7), (8, .int x8), (9, .int (x9 + 1))] [] (hu h 88 (ix (h 101 (ix x9))) (h 100 (ix x9))))))))) : td_J G d mX10_orders Post 221 [(0, .ref 85), (1, .int x1), (2, .int x2), (3, .int x3), (4, .int x4), (5, .int x5), (6, .int x6), (7, .int x7), (8, .int x8), (9, .int x9)] [] h := by
  refine td_iload 9 dX10_orders_221 rfl ?_
  refine td_iload_n 3 dX10_orders_223 rfl ?_
  obtain ⟨Kt, Kf⟩ := K
  refine td_icmp_ge (tgt := 252) dX10_orders_224 (by decide) (fun q => ?_) (fun q => ?_)
  · have K := Kt q
    refine td_aload_n 0 dX10_orders_252 rfl ?_
    exact K
  · have K := Kf q
    refine td_aload_n 0 dX10_orders_227 rfl ?_
    refine gf_X10_16 rfl kp_85 dX10_orders_228 ?_
    refine td_aload_n 0 dX10_orders_231 rfl ?_
    refine gf_X10_55 rfl kp_85 dX10_orders_232 ?_
    refine td_iload 9 dX10_orders_235 rfl ?_
    obtain ⟨e237, K⟩ := K
    refine td_ialdc (j := (ix x9)) kp_101 (by decide) e237 rfl dX10_orders_237 ?_
    refine td_aload_n 0 dX10_orders_238 rfl ?_
    refine gf_X10_52 rfl kp_85 dX10_orders_239 ?_
    refine td_iload 9 dX10_orders_242 rfl ?_
    obtain ⟨e244, K⟩ := K
    refine td_ialdc (j := (ix x9)) kp_100 (by decide) e244 rfl dX10_orders_244 ?_
    obtain ⟨e245, K⟩ := K
    refine td_iastc (j := (ix (h 101 (ix x9)))) kp_88 (by decide) e245 rfl dX10_orders_245 ?_
    refine td_iinc 9 (v := x9 + 1) (lv2 := [(0, .ref 85), (1, .int x1), (2, .int x2), (3, .int x3), (4, .int x4), (5, .int x5), (6, .int x6), (7, .int x7), (8, .int x8), (9, .int (x9 + 1))]) dX10_orders_246 rfl (congrArg (x9 + ·) (by decide)) (by decide) rfl ?_
    refine td_goto (tgt := 221) dX10_orders_249 (by decide) ?_
    exact K
set_option maxRecDepth 20000 in
theorem rX10_orders_256 {G : td_G} {d : Nat} {Post : td_P} {x1 x2 x3 x4 x5 x6 x7 x8 x9 : Int32} {h : td_H} (K : td_J G d mX10_orders Post 257 [(0, .ref 85), (1, .int x1), (2, .int x2), (3, .int x3), (4, .int x4), (5, .int x5), (6, .int x6), (7, .int x7), (8, .int x8), (9, .int x9)] [.ref 85] h) : td_J G d mX10_orders Post 256 [(0, .ref 85), (1, .int x1), (2, .int x2), (3, .int x3), (4, .int x4), (5, .int x5), (6, .int x6), (7, .int x7), (8, .int x8), (9, .int x9)] [] h := by
  refine td_aload_n 0 dX10_orders_256 rfl ?_
  exact K
set_option maxRecDepth 20000 in
theorem rX10_orders_260 {G : td_G} {d : Nat} {Post : td_P} {x1 x2 x3 x4 x5 x6 x7 x8 x9 s0 : Int32} {h : td_H} (K : td_J G d mX10_orders Post 263 [(0, .ref 85), (1, .int x1), (2, .int x2), (3, .int x3), (4, .int x4), (5, .int x5), (6, .int x6), (7, .int x7), (8, .int x8), (9, .int s0)] [.ref 85] h) : td_J G d mX10_orders Post 260 [(0, .ref 85), (1, .int x1), (2, .int x2), (3, .int x3), (4, .int x4), (5, .int x5), (6, .int x6), (7, .int x7), (8, .int x8), (9, .int x9)] [.int s0] h := by
  refine td_istore (lv2 := [(0, .ref 85), (1, .int x1), (2, .int x2), (3, .int x3), (4, .int x4), (5, .int x5), (6, .int x6), (7, .int x7), (8, .int x8), (9, .int s0)]) dX10_orders_260 (by decide) rfl ?_
  refine td_aload_n 0 dX10_orders_262 rfl ?_
  exact K
set_option maxRecDepth 20000 in
theorem rX10_orders_266 {G : td_G} {d : Nat} {Post : td_P} {x1 x2 x3 x4 x5 x6 x7 x8 x9 s0 : Int32} {h : td_H} (K : (x7 = 0 → td_J G d mX10_orders Post 294 [(0, .ref 85), (1, .int x1), (2, .int x2), (3, .int x3), (4, .int x4), (5, .int x5), (6, .int x6), (7, .int x7), (8, .int x8), (9, .int x9), (10, .int s0)] [] h) ∧ (¬ x7 = 0 → ((x9 < x5 → td_J G d mX10_orders Post 294 [(0, .ref 85), (1, .int x1), (2, .int x2), (3, .int x3), (4, .int x4), (5, .int x5), (6, .int x6), (7, .int x7), (8, .int x8), (9, .int x9), (10, .int s0)] [] h) ∧ (¬ x9 < x5 → ((¬ x9 = x5 → td_J G d mX10_orders Post 334 [(0, .ref 85), (1, .int x1), (2, .int x2), (3, .int x3), (4, .int x4), (5, .int x5), (6, .int x6), (7, .int x7), (8, .int x8), (9, .int x9), (10, .int s0)] [] h) ∧ (x9 = x5 → ((x6 ≤ s0 → td_J G d mX10_orders Post 334 [(0, .ref 85), (1, .int x1), (2, .int x2), (3, .int x3), (4, .int x4), (5, .int x5), (6, .int x6), (7, .int x7), (8, .int x8), (9, .int x9), (10, .int s0)] [] h) ∧ (¬ x6 ≤ s0 → td_J G d mX10_orders Post 294 [(0, .ref 85), (1, .int x1), (2, .int x2), (3, .int x3), (4, .int x4), (5, .int x5), (6, .int x6), (7, .int x7), (8, .int x8), (9, .int x9), (10, .int s0)] [] h)))))))) : td_J G d mX10_orders Post 266 [(0, .ref 85), (1, .int x1), (2, .int x2), (3, .int x3), (4, .int x4), (5, .int x5), (6, .int x6), (7, .int x7), (8, .int x8), (9, .int x9)] [.int s0] h := by
  refine td_istore (lv2 := [(0, .ref 85), (1, .int x1), (2, .int x2), (3, .int x3), (4, .int x4), (5, .int x5), (6, .int x6), (7, .int x7), (8, .int x8), (9, .int x9), (10, .int s0)]) dX10_orders_266 (by decide) rfl ?_
  refine td_iload 7 dX10_orders_268 rfl ?_
  obtain ⟨Kt, Kf⟩ := K
  refine td_if_eq (tgt := 294) dX10_orders_270 (by decide) (fun q => ?_) (fun q => ?_)
  · have K := Kt q
    exact K
  · have K := Kf q
    refine td_iload 9 dX10_orders_273 rfl ?_
    refine td_iload 5 dX10_orders_275 rfl ?_
    obtain ⟨Kt, Kf⟩ := K
    refine td_icmp_lt (tgt := 294) dX10_orders_277 (by decide) (fun q => ?_) (fun q => ?_)
    · have K := Kt q
      exact K
    · have K := Kf q
      refine td_iload 9 dX10_orders_280 rfl ?_
      refine td_iload 5 dX10_orders_282 rfl ?_
      obtain ⟨Kt, Kf⟩ := K
      refine td_icmp_ne (tgt := 334) dX10_orders_284 (by decide) (fun q => ?_) (fun q => ?_)
      · have K := Kt q
        exact K
      · have K := Kf q
        refine td_iload 10 dX10_orders_287 rfl ?_
        refine td_iload 6 dX10_orders_289 rfl ?_
        obtain ⟨Kt, Kf⟩ := K
        refine td_icmp_ge (tgt := 334) dX10_orders_291 (by decide) (fun q => ?_) (fun q => ?_)
        · have K := Kt q
          exact K
        · have K := Kf q
          exact K
set_option maxRecDepth 20000 in
theorem rX10_orders_294 {G : td_G} {d : Nat} {Post : td_P} {x1 x2 x3 x4 x5 x6 x7 x8 x9 x10 : Int32} {h : td_H} (K : td_J G d mX10_orders Post 308 [(0, .ref 85), (1, .int x1), (2, .int x2), (3, .int x3), (4, .int x4), (5, .int x9), (6, .int x10), (7, .int 1), (8, .int x8), (9, .int x9), (10, .int x10), (11, .int 0)] [] h) : td_J G d mX10_orders Post 294 [(0, .ref 85), (1, .int x1), (2, .int x2), (3, .int x3), (4, .int x4), (5, .int x5), (6, .int x6), (7, .int x7), (8, .int x8), (9, .int x9), (10, .int x10)] [] h := by
  refine td_iconst (v := 1) dX10_orders_294 (by decide) ?_
  refine td_istore (lv2 := [(0, .ref 85), (1, .int x1), (2, .int x2), (3, .int x3), (4, .int x4), (5, .int x5), (6, .int x6), (7, .int 1), (8, .int x8), (9, .int x9), (10, .int x10)]) dX10_orders_295 (by decide) rfl ?_
  refine td_iload 9 dX10_orders_297 rfl ?_
  refine td_istore (lv2 := [(0, .ref 85), (1, .int x1), (2, .int x2), (3, .int x3), (4, .int x4), (5, .int x9), (6, .int x6), (7, .int 1), (8, .int x8), (9, .int x9), (10, .int x10)]) dX10_orders_299 (by decide) rfl ?_
  refine td_iload 10 dX10_orders_301 rfl ?_
  refine td_istore (lv2 := [(0, .ref 85), (1, .int x1), (2, .int x2), (3, .int x3), (4, .int x4), (5, .int x9), (6, .int x10), (7, .int 1), (8, .int x8), (9, .int x9), (10, .int x10)]) dX10_orders_303 (by decide) rfl ?_
  refine td_iconst (v := 0) dX10_orders_305 (by decide) ?_
  refine td_istore (lv2 := [(0, .ref 85), (1, .int x1), (2, .int x2), (3, .int x3), (4, .int x4), (5, .int x9), (6, .int x10), (7, .int 1), (8, .int x8), (9, .int x9), (10, .int x10), (11, .int 0)]) dX10_orders_306 (by decide) rfl ?_
  exact K
set_option maxRecDepth 20000 in
theorem rX10_orders_308 {G : td_G} {d : Nat} {Post : td_P} {x1 x2 x3 x4 x5 x6 x7 x8 x9 x10 x11 : Int32} {h : td_H} (K : (x3 ≤ x11 → td_J G d mX10_orders Post 334 [(0, .ref 85), (1, .int x1), (2, .int x2), (3, .int x3), (4, .int x4), (5, .int x5), (6, .int x6), (7, .int x7), (8, .int x8), (9, .int x9), (10, .int x10)] [] h) ∧ (¬ x3 ≤ x11 → (vp_in x11 6 ∧ (vp_in x11 6 ∧ (td_J G d mX10_orders Post 308 [(0, .ref 85), (1, .int x1), (2, .int x2), (3, .int x3), (4, .int x4), (5, .int x5), (6, .int x6), (7, .int x7), (8, .int x8), (9, .int x9), (10, .int x10), (11, .int (x11 + 1))] [] (hu h 102 (ix x11) (h 101 (ix x11)))))))) : td_J G d mX10_orders Post 308 [(0, .ref 85), (1, .int x1), (2, .int x2), (3, .int x3), (4, .int x4), (5, .int x5), (6, .int x6), (7, .int x7), (8, .int x8), (9, .int x9), (10, .int x10), (11, .int x11)] [] h := by
  refine td_iload 11 dX10_orders_308 rfl ?_
  refine td_iload_n 3 dX10_orders_310 rfl ?_
  obtain ⟨Kt, Kf⟩ := K
  refine td_icmp_ge (tgt := 334) dX10_orders_311 (by decide) (fun q => ?_) (fun q => ?_)
  · have K := Kt q
    refine td_drop [0, 1, 2, 3, 4, 5, 6, 7, 8, 9, 10] rfl ?_
    exact K
  · have K := Kf q
    refine td_aload_n 0 dX10_orders_314 rfl ?_
    refine gf_X10_58 rfl kp_85 dX10_orders_315 ?_
    refine td_iload 11 dX10_orders_318 rfl ?_
    refine td_aload_n 0 dX10_orders_320 rfl ?_
    refine gf_X10_55 rfl kp_85 dX10_orders_321 ?_
    refine td_iload 11 dX10_orders_324 rfl ?_
    obtain ⟨e326, K⟩ := K
    refine td_ialdc (j := (ix x11)) kp_101 (by decide) e326 rfl dX10_orders_326 ?_
    obtain ⟨e327, K⟩ := K
    refine td_iastc (j := (ix x11)) kp_102 (by decide) e327 rfl dX10_orders_327 ?_
    refine td_iinc 11 (v := x11 + 1) (lv2 := [(0, .ref 85), (1, .int x1), (2, .int x2), (3, .int x3), (4, .int x4), (5, .int x5), (6, .int x6), (7, .int x7), (8, .int x8), (9, .int x9), (10, .int x10), (11, .int (x11 + 1))]) dX10_orders_328 rfl (congrArg (x11 + ·) (by decide)) (by decide) rfl ?_
    refine td_goto (tgt := 308) dX10_orders_331 (by decide) ?_
    exact K
set_option maxRecDepth 20000 in
theorem rX10_orders_334 {G : td_G} {d : Nat} {Post : td_P} {x1 x2 x3 x4 x5 x6 x7 x8 x9 x10 : Int32} {h : td_H} (K : td_J G d mX10_orders Post 336 [(0, .ref 85), (1, .int x1), (2, .int x2), (3, .int x3), (4, .int x4), (5, .int x5), (6, .int x6), (7, .int x7), (8, .int x8), (9, .int x9), (10, .int x10)] [.int x3, .ref 85] h) : td_J G d mX10_orders Post 334 [(0, .ref 85), (1, .int x1), (2, .int x2), (3, .int x3), (4, .int x4), (5, .int x5), (6, .int x6), (7, .int x7), (8, .int x8), (9, .int x9), (10, .int x10)] [] h := by
  refine td_aload_n 0 dX10_orders_334 rfl ?_
  refine td_iload_n 3 dX10_orders_335 rfl ?_
  exact K
set_option maxRecDepth 20000 in
theorem rX10_orders_339 {G : td_G} {d : Nat} {Post : td_P} {x1 x2 x3 x4 x5 x6 x7 x8 x9 x10 s0 : Int32} {h : td_H} (K : td_J G d mX10_orders Post 213 [(0, .ref 85), (1, .int x1), (2, .int x2), (3, .int x3), (4, .int x4), (5, .int x5), (6, .int x6), (7, .int x7), (8, .int s0)] [] h) : td_J G d mX10_orders Post 339 [(0, .ref 85), (1, .int x1), (2, .int x2), (3, .int x3), (4, .int x4), (5, .int x5), (6, .int x6), (7, .int x7), (8, .int x8), (9, .int x9), (10, .int x10)] [.int s0] h := by
  refine td_istore (lv2 := [(0, .ref 85), (1, .int x1), (2, .int x2), (3, .int x3), (4, .int x4), (5, .int x5), (6, .int x6), (7, .int x7), (8, .int s0), (9, .int x9), (10, .int x10)]) dX10_orders_339 (by decide) rfl ?_
  refine td_goto (tgt := 213) dX10_orders_341 (by decide) ?_
  refine td_drop [0, 1, 2, 3, 4, 5, 6, 7, 8] rfl ?_
  exact K
set_option maxRecDepth 20000 in
theorem rX10_orders_371 {G : td_G} {d : Nat} {Post : td_P} {x1 x2 x3 x4 x5 x6 x7 x8 s0 : Int32} {h : td_H} (K : Post (some (.int s0)) h) : td_J G d mX10_orders Post 371 [(0, .ref 85), (1, .int x1), (2, .int x2), (3, .int x3), (4, .int x4), (5, .int x5), (6, .int x6), (7, .int x7), (8, .int x8)] [.int s0] h := by
  exact td_ireturn rfl dX10_orders_371 K
set_option maxRecDepth 20000 in
theorem rX10_times_0 {G : td_G} {d : Nat} {Post : td_P} {x1 x2 x3 x4 x5 : Int32} {h : td_H} (K : td_J G d mX10_times Post 2 [(0, .ref 85), (1, .int x1), (2, .int x2), (3, .int x3), (4, .int x4), (5, .int x5)] [.int x2, .int x1] h) : td_J G d mX10_times Post 0 [(0, .ref 85), (1, .int x1), (2, .int x2), (3, .int x3), (4, .int x4), (5, .int x5)] [] h := by
  refine td_iload_n 1 dX10_times_0 rfl ?_
  refine td_iload_n 2 dX10_times_1 rfl ?_
  exact K
set_option maxRecDepth 20000 in
theorem rX10_times_5 {G : td_G} {d : Nat} {Post : td_P} {x1 x2 x3 x4 x5 s0 : Int32} {h : td_H} (K : (s0 = 0 → td_J G d mX10_times Post 34 [(0, .ref 85), (1, .int x1), (2, .int x2), (3, .int x3), (4, .int x4), (5, .int x5)] [] h) ∧ (¬ s0 = 0 → td_J G d mX10_times Post 15 [(0, .ref 85), (1, .int x1), (2, .int x2), (3, .int x3), (4, .int x4), (5, .int x5)] [.long 8, .long 1, .long x4.toInt64] h)) : td_J G d mX10_times Post 5 [(0, .ref 85), (1, .int x1), (2, .int x2), (3, .int x3), (4, .int x4), (5, .int x5)] [.int s0] h := by
  obtain ⟨Kt, Kf⟩ := K
  refine td_if_eq (tgt := 34) dX10_times_5 (by decide) (fun q => ?_) (fun q => ?_)
  · have K := Kt q
    exact K
  · have K := Kf q
    refine td_iload 4 dX10_times_8 rfl ?_
    refine td_i2l dX10_times_10 ?_
    refine td_lconst (v := 1) dX10_times_11 (by decide) ?_
    refine td_ldc2 (v := 8) kw_X10_73 dX10_times_12 ?_
    exact K
set_option maxRecDepth 20000 in
theorem rX10_times_18 {G : td_G} {d : Nat} {Post : td_P} {x1 x2 x3 x4 x5 s0 : Int32} {h : td_H} (K : (s0 = 0 → td_J G d mX10_times Post 34 [(0, .ref 85), (1, .int x1), (2, .int x2), (3, .int x3), (4, .int x4), (5, .int x5)] [] h) ∧ (¬ s0 = 0 → td_J G d mX10_times Post 28 [(0, .ref 85), (1, .int x1), (2, .int x2), (3, .int x3), (4, .int x4), (5, .int x5)] [.long 2, .long 0, .long x5.toInt64] h)) : td_J G d mX10_times Post 18 [(0, .ref 85), (1, .int x1), (2, .int x2), (3, .int x3), (4, .int x4), (5, .int x5)] [.int s0] h := by
  obtain ⟨Kt, Kf⟩ := K
  refine td_if_eq (tgt := 34) dX10_times_18 (by decide) (fun q => ?_) (fun q => ?_)
  · have K := Kt q
    exact K
  · have K := Kf q
    refine td_iload 5 dX10_times_21 rfl ?_
    refine td_i2l dX10_times_23 ?_
    refine td_lconst (v := 0) dX10_times_24 (by decide) ?_
    refine td_ldc2 (v := 2) kw_X10_253 dX10_times_25 ?_
    exact K
set_option maxRecDepth 20000 in
theorem rX10_times_31 {G : td_G} {d : Nat} {Post : td_P} {x1 x2 x3 x4 x5 s0 : Int32} {h : td_H} (K : (¬ s0 = 0 → td_J G d mX10_times Post 44 [(0, .ref 85), (1, .int x1), (2, .int x2), (3, .int x3), (4, .int x4), (5, .int x5)] [.int (2 * x4), .int x3, .int x2, .int x1, .ref 85] h) ∧ (s0 = 0 → td_J G d mX10_times Post 34 [(0, .ref 85), (1, .int x1), (2, .int x2), (3, .int x3), (4, .int x4), (5, .int x5)] [] h)) : td_J G d mX10_times Post 31 [(0, .ref 85), (1, .int x1), (2, .int x2), (3, .int x3), (4, .int x4), (5, .int x5)] [.int s0] h := by
  obtain ⟨Kt, Kf⟩ := K
  refine td_if_ne (tgt := 36) dX10_times_31 (by decide) (fun q => ?_) (fun q => ?_)
  · have K := Kt q
    refine td_aload_n 0 dX10_times_36 rfl ?_
    refine td_iload_n 1 dX10_times_37 rfl ?_
    refine td_iload_n 2 dX10_times_38 rfl ?_
    refine td_iload_n 3 dX10_times_39 rfl ?_
    refine td_iconst (v := 2) dX10_times_40 (by decide) ?_
    refine td_iload 4 dX10_times_41 rfl ?_
    refine td_imul dX10_times_43 ?_
    exact K
  · have K := Kf q
    exact K
set_option maxRecDepth 20000 in
theorem rX10_times_34 {G : td_G} {d : Nat} {Post : td_P} {x1 x2 x3 x4 x5 : Int32} {h : td_H} (K : Post (some (.int (-1))) h) : td_J G d mX10_times Post 34 [(0, .ref 85), (1, .int x1), (2, .int x2), (3, .int x3), (4, .int x4), (5, .int x5)] [] h := by
  refine td_iconst (v := (-1)) dX10_times_34 (by decide) ?_
  exact td_ireturn rfl dX10_times_35 K
set_option maxRecDepth 20000 in
theorem rX10_times_47 {G : td_G} {d : Nat} {Post : td_P} {x1 x2 x3 x4 x5 s0 : Int32} {h : td_H} (K : (0 ≤ s0 → td_J G d mX10_times Post 68 [(0, .ref 85), (1, .int x1), (2, .int x2), (3, .int x3), (4, .int x4), (5, .int x5), (6, .int s0), (7, .int ((16 * x1) + x3)), (8, .int 0)] [] h) ∧ (¬ 0 ≤ s0 → (Post (some (.int s0)) h))) : td_J G d mX10_times Post 47 [(0, .ref 85), (1, .int x1), (2, .int x2), (3, .int x3), (4, .int x4), (5, .int x5)] [.int s0] h := by
  refine td_istore (lv2 := [(0, .ref 85), (1, .int x1), (2, .int x2), (3, .int x3), (4, .int x4), (5, .int x5), (6, .int s0)]) dX10_times_47 (by decide) rfl ?_
  refine td_iload 6 dX10_times_49 rfl ?_
  obtain ⟨Kt, Kf⟩ := K
  refine td_if_ge (tgt := 57) dX10_times_51 (by decide) (fun q => ?_) (fun q => ?_)
  · have K := Kt q
    refine td_bipush (v := 16) dX10_times_57 (by decide) ?_
    refine td_iload_n 1 dX10_times_59 rfl ?_
    refine td_imul dX10_times_60 ?_
    refine td_iload_n 3 dX10_times_61 rfl ?_
    refine td_iadd dX10_times_62 ?_
    refine td_istore (lv2 := [(0, .ref 85), (1, .int x1), (2, .int x2), (3, .int x3), (4, .int x4), (5, .int x5), (6, .int s0), (7, .int ((16 * x1) + x3))]) dX10_times_63 (by decide) rfl ?_
    refine td_iconst (v := 0) dX10_times_65 (by decide) ?_
    refine td_istore (lv2 := [(0, .ref 85), (1, .int x1), (2, .int x2), (3, .int x3), (4, .int x4), (5, .int x5), (6, .int s0), (7, .int ((16 * x1) + x3)), (8, .int 0)]) dX10_times_66 (by decide) rfl ?_
    exact K
  · have K := Kf q
    refine td_iload 6 dX10_times_54 rfl ?_
    exact td_ireturn rfl dX10_times_56 K
set_option maxRecDepth 20000 in
theorem rX10_times_68 {G : td_G} {d : Nat} {Post : td_P} {x1 x2 x3 x4 x5 x6 x7 x8 : Int32} {h : td_H} (K : (x4 ≤ x8 → td_J G d mX10_times Post 129 [(0, .ref 85), (1, .int x1), (2, .int x2), (3, .int x3), (4, .int x4), (5, .int x5), (6, .int x6), (7, .int x7), (8, .int x8)] [.ref 85] h) ∧ (¬ x4 ≤ x8 → (vp_in (x7 + (2 * x8)) 64 ∧ (td_J G d mX10_times Post 88 [(0, .ref 85), (1, .int x1), (2, .int x2), (3, .int x3), (4, .int x4), (5, .int x5), (6, .int x6), (7, .int x7), (8, .int x8)] [.int (h 106 (ix (x7 + (2 * x8)))), .ref 85] h)))) : td_J G d mX10_times Post 68 [(0, .ref 85), (1, .int x1), (2, .int x2), (3, .int x3), (4, .int x4), (5, .int x5), (6, .int x6), (7, .int x7), (8, .int x8)] [] h := by
  refine td_iload 8 dX10_times_68 rfl ?_
  refine td_iload 4 dX10_times_70 rfl ?_
  obtain ⟨Kt, Kf⟩ := K
  refine td_icmp_ge (tgt := 128) dX10_times_72 (by decide) (fun q => ?_) (fun q => ?_)
  · have K := Kt q
    refine td_aload_n 0 dX10_times_128 rfl ?_
    exact K
  · have K := Kf q
    refine td_aload_n 0 dX10_times_75 rfl ?_
    refine td_aload_n 0 dX10_times_76 rfl ?_
    refine gf_X10_70 rfl kp_85 dX10_times_77 ?_
    refine td_iload 7 dX10_times_80 rfl ?_
    refine td_iconst (v := 2) dX10_times_82 (by decide) ?_
    refine td_iload 8 dX10_times_83 rfl ?_
    refine td_imul dX10_times_85 ?_
    refine td_iadd dX10_times_86 ?_
    obtain ⟨e87, K⟩ := K
    refine td_ialdc (j := (ix (x7 + (2 * x8)))) kp_106 (by decide) e87 rfl dX10_times_87 ?_
    exact K
set_option maxRecDepth 20000 in
theorem rX10_times_91 {G : td_G} {d : Nat} {Post : td_P} {x1 x2 x3 x4 x5 x6 x7 x8 s0 : Int32} {h : td_H} (K : (s0 = 0 → td_J G d mX10_times Post 119 [(0, .ref 85), (1, .int x1), (2, .int x2), (3, .int x3), (4, .int x4), (5, .int x5), (6, .int x6), (7, .int x7), (8, .int x8)] [] h) ∧ (¬ s0 = 0 → (vp_in ((x7 + (2 * x8)) + 1) 64 ∧ (td_J G d mX10_times Post 113 [(0, .ref 85), (1, .int x1), (2, .int x2), (3, .int x3), (4, .int x4), (5, .int x5), (6, .int x6), (7, .int x7), (8, .int x8)] [.long 120, .long 0, .long ((h 106 (ix ((x7 + (2 * x8)) + 1))).toInt64)] h)))) : td_J G d mX10_times Post 91 [(0, .ref 85), (1, .int x1), (2, .int x2), (3, .int x3), (4, .int x4), (5, .int x5), (6, .int x6), (7, .int x7), (8, .int x8)] [.int s0] h := by
  obtain ⟨Kt, Kf⟩ := K
  refine td_if_eq (tgt := 119) dX10_times_91 (by decide) (fun q => ?_) (fun q => ?_)
  · have K := Kt q
    exact K
  · have K := Kf q
    refine td_aload_n 0 dX10_times_94 rfl ?_
    refine gf_X10_70 rfl kp_85 dX10_times_95 ?_
    refine td_iload 7 dX10_times_98 rfl ?_
    refine td_iconst (v := 2) dX10_times_100 (by decide) ?_
    refine td_iload 8 dX10_times_101 rfl ?_
    refine td_imul dX10_times_103 ?_
    refine td_iadd dX10_times_104 ?_
    refine td_iconst (v := 1) dX10_times_105 (by decide) ?_
    refine td_iadd dX10_times_106 ?_
    obtain ⟨e107, K⟩ := K
    refine td_ialdc (j := (ix ((x7 + (2 * x8)) + 1))) kp_106 (by decide) e107 rfl dX10_times_107 ?_
    refine td_i2l dX10_times_108 ?_
    refine td_lconst (v := 0) dX10_times_109 (by decide) ?_
    refine td_ldc2 (v := 120) kw_X10_259 dX10_times_110 ?_
    exact K
set_option maxRecDepth 20000 in
theorem rX10_times_116 {G : td_G} {d : Nat} {Post : td_P} {x1 x2 x3 x4 x5 x6 x7 x8 s0 : Int32} {h : td_H} (K : (¬ s0 = 0 → td_J G d mX10_times Post 68 [(0, .ref 85), (1, .int x1), (2, .int x2), (3, .int x3), (4, .int x4), (5, .int x5), (6, .int x6), (7, .int x7), (8, .int (x8 + 1))] [] h) ∧ (s0 = 0 → td_J G d mX10_times Post 119 [(0, .ref 85), (1, .int x1), (2, .int x2), (3, .int x3), (4, .int x4), (5, .int x5), (6, .int x6), (7, .int x7), (8, .int x8)] [] h)) : td_J G d mX10_times Post 116 [(0, .ref 85), (1, .int x1), (2, .int x2), (3, .int x3), (4, .int x4), (5, .int x5), (6, .int x6), (7, .int x7), (8, .int x8)] [.int s0] h := by
  obtain ⟨Kt, Kf⟩ := K
  refine td_if_ne (tgt := 122) dX10_times_116 (by decide) (fun q => ?_) (fun q => ?_)
  · have K := Kt q
    refine td_iinc 8 (v := x8 + 1) (lv2 := [(0, .ref 85), (1, .int x1), (2, .int x2), (3, .int x3), (4, .int x4), (5, .int x5), (6, .int x6), (7, .int x7), (8, .int (x8 + 1))]) dX10_times_122 rfl (congrArg (x8 + ·) (by decide)) (by decide) rfl ?_
    refine td_goto (tgt := 68) dX10_times_125 (by decide) ?_
    exact K
  · have K := Kf q
    exact K
set_option maxRecDepth 20000 in
theorem rX10_times_119 {G : td_G} {d : Nat} {Post : td_P} {x1 x2 x3 x4 x5 x6 x7 x8 : Int32} {h : td_H} (K : Post (some (.int (-2))) h) : td_J G d mX10_times Post 119 [(0, .ref 85), (1, .int x1), (2, .int x2), (3, .int x3), (4, .int x4), (5, .int x5), (6, .int x6), (7, .int x7), (8, .int x8)] [] h := by
  refine td_bipush (v := (-2)) dX10_times_119 (by decide) ?_
  exact td_ireturn rfl dX10_times_121 K
set_option maxRecDepth 20000 in
theorem rX10_times_132 {G : td_G} {d : Nat} {Post : td_P} {x1 x2 x3 x4 x5 x6 x7 x8 : Int32} {h : td_H} (K : td_J G d mX10_times Post 142 [(0, .ref 85), (1, .int x1), (2, .int x2), (3, .int x3), (4, .int x4), (5, .int x5), (6, .int x6), (7, .int x7), (8, .int 0), (9, .int (-4)), (10, .int 0)] [] h) : td_J G d mX10_times Post 132 [(0, .ref 85), (1, .int x1), (2, .int x2), (3, .int x3), (4, .int x4), (5, .int x5), (6, .int x6), (7, .int x7), (8, .int x8)] [] h := by
  refine td_iconst (v := 0) dX10_times_132 (by decide) ?_
  refine td_istore (lv2 := [(0, .ref 85), (1, .int x1), (2, .int x2), (3, .int x3), (4, .int x4), (5, .int x5), (6, .int x6), (7, .int x7), (8, .int 0)]) dX10_times_133 (by decide) rfl ?_
  refine td_bipush (v := (-4)) dX10_times_135 (by decide) ?_
  refine td_istore (lv2 := [(0, .ref 85), (1, .int x1), (2, .int x2), (3, .int x3), (4, .int x4), (5, .int x5), (6, .int x6), (7, .int x7), (8, .int 0), (9, .int (-4))]) dX10_times_137 (by decide) rfl ?_
  refine td_iconst (v := 0) dX10_times_139 (by decide) ?_
  refine td_istore (lv2 := [(0, .ref 85), (1, .int x1), (2, .int x2), (3, .int x3), (4, .int x4), (5, .int x5), (6, .int x6), (7, .int x7), (8, .int 0), (9, .int (-4)), (10, .int 0)]) dX10_times_140 (by decide) rfl ?_
  exact K
set_option maxRecDepth 20000 in
theorem rX10_times_142 {G : td_G} {d : Nat} {Post : td_P} {x1 x2 x3 x4 x5 x6 x7 x8 x9 x10 : Int32} {h : td_H} (K : (20 < x10 → ((¬ x5 = 0 → ((¬ x8 = 0 → ((¬ x5 = 1 → td_J G d mX10_times Post 349 [(0, .ref 85), (1, .int x1), (2, .int x2), (3, .int x3), (4, .int x4), (5, .int x5), (6, .int x6), (7, .int x7), (8, .int x8), (9, .int x9), (10, .int x10)] [.int (jrem x9 10)] h) ∧ (x5 = 1 → td_J G d mX10_times Post 349 [(0, .ref 85), (1, .int x1), (2, .int x2), (3, .int x3), (4, .int x4), (5, .int x5), (6, .int x6), (7, .int x7), (8, .int x8), (9, .int x9), (10, .int x10)] [.int (x9 / 10)] h))) ∧ (x8 = 0 → td_J G d mX10_times Post 349 [(0, .ref 85), (1, .int x1), (2, .int x2), (3, .int x3), (4, .int x4), (5, .int x5), (6, .int x6), (7, .int x7), (8, .int x8), (9, .int x9), (10, .int x10)] [.int (-4)] h))) ∧ (x5 = 0 → td_J G d mX10_times Post 349 [(0, .ref 85), (1, .int x1), (2, .int x2), (3, .int x3), (4, .int x4), (5, .int x5), (6, .int x6), (7, .int x7), (8, .int x8), (9, .int x9), (10, .int x10)] [.int x8] h))) ∧ (¬ 20 < x10 → td_J G d mX10_times Post 152 [(0, .ref 85), (1, .int x1), (2, .int x2), (3, .int x3), (4, .int x4), (5, .int x5), (6, .int x6), (7, .int x7), (8, .int x8), (9, .int x9), (10, .int x10), (11, .int 1)] [] h)) : td_J G d mX10_times Post 142 [(0, .ref 85), (1, .int x1), (2, .int x2), (3, .int x3), (4, .int x4), (5, .int x5), (6, .int x6), (7, .int x7), (8, .int x8), (9, .int x9), (10, .int x10)] [] h := by
  refine td_iload 10 dX10_times_142 rfl ?_
  refine td_bipush (v := 20) dX10_times_144 (by decide) ?_
  obtain ⟨Kt, Kf⟩ := K
  refine td_icmp_gt (tgt := 310) dX10_times_146 (by decide) (fun q => ?_) (fun q => ?_)
  · have K := Kt q
    refine td_iload 5 dX10_times_310 rfl ?_
    obtain ⟨Kt, Kf⟩ := K
    refine td_if_ne (tgt := 320) dX10_times_312 (by decide) (fun q => ?_) (fun q => ?_)
    · have K := Kt q
      refine td_iload 8 dX10_times_320 rfl ?_
      obtain ⟨Kt, Kf⟩ := K
      refine td_if_ne (tgt := 330) dX10_times_322 (by decide) (fun q => ?_) (fun q => ?_)
      · have K := Kt q
        refine td_iload 5 dX10_times_330 rfl ?_
        refine td_iconst (v := 1) dX10_times_332 (by decide) ?_
        obtain ⟨Kt, Kf⟩ := K
        refine td_icmp_ne (tgt := 344) dX10_times_333 (by decide) (fun q => ?_) (fun q => ?_)
        · have K := Kt q
          refine td_iload 9 dX10_times_344 rfl ?_
          refine td_bipush (v := 10) dX10_times_346 (by decide) ?_
          refine td_irem dX10_times_348 (by decide) ?_
          exact K
        · have K := Kf q
          refine td_iload 9 dX10_times_336 rfl ?_
          refine td_bipush (v := 10) dX10_times_338 (by decide) ?_
          refine td_idiv dX10_times_340 (by decide) ?_
          refine td_goto (tgt := 349) dX10_times_341 (by decide) ?_
          exact K
      · have K := Kf q
        refine td_bipush (v := (-4)) dX10_times_325 (by decide) ?_
        refine td_goto (tgt := 349) dX10_times_327 (by decide) ?_
        exact K
    · have K := Kf q
      refine td_iload 8 dX10_times_315 rfl ?_
      refine td_goto (tgt := 349) dX10_times_317 (by decide) ?_
      exact K
  · have K := Kf q
    refine td_iconst (v := 1) dX10_times_149 (by decide) ?_
    refine td_istore (lv2 := [(0, .ref 85), (1, .int x1), (2, .int x2), (3, .int x3), (4, .int x4), (5, .int x5), (6, .int x6), (7, .int x7), (8, .int x8), (9, .int x9), (10, .int x10), (11, .int 1)]) dX10_times_150 (by decide) rfl ?_
    exact K
set_option maxRecDepth 20000 in
theorem rX10_times_152 {G : td_G} {d : Nat} {Post : td_P} {x1 x2 x3 x4 x5 x6 x7 x8 x9 x10 x11 : Int32} {h : td_H} (K : (9 < x11 → td_J G d mX10_times Post 142 [(0, .ref 85), (1, .int x1), (2, .int x2), (3, .int x3), (4, .int x4), (5, .int x5), (6, .int x6), (7, .int x7), (8, .int x8), (9, .int x9), (10, .int (x10 + 1))] [] h) ∧ (¬ 9 < x11 → td_J G d mX10_times Post 176 [(0, .ref 85), (1, .int x1), (2, .int x2), (3, .int x3), (4, .int x4), (5, .int x5), (6, .int x6), (7, .int x7), (8, .int x8), (9, .int x9), (10, .int x10), (11, .int x11)] [.ref 85] (hu (hu h 87 3 x10) 87 4 x11))) : td_J G d mX10_times Post 152 [(0, .ref 85), (1, .int x1), (2, .int x2), (3, .int x3), (4, .int x4), (5, .int x5), (6, .int x6), (7, .int x7), (8, .int x8), (9, .int x9), (10, .int x10), (11, .int x11)] [] h := by
  refine td_iload 11 dX10_times_152 rfl ?_
  refine td_bipush (v := 9) dX10_times_154 (by decide) ?_
  obtain ⟨Kt, Kf⟩ := K
  refine td_icmp_gt (tgt := 304) dX10_times_156 (by decide) (fun q => ?_) (fun q => ?_)
  · have K := Kt q
    refine td_iinc 10 (v := x10 + 1) (lv2 := [(0, .ref 85), (1, .int x1), (2, .int x2), (3, .int x3), (4, .int x4), (5, .int x5), (6, .int x6), (7, .int x7), (8, .int x8), (9, .int x9), (10, .int (x10 + 1)), (11, .int x11)]) dX10_times_304 rfl (congrArg (x10 + ·) (by decide)) (by decide) rfl ?_
    refine td_goto (tgt := 142) dX10_times_307 (by decide) ?_
    refine td_drop [0, 1, 2, 3, 4, 5, 6, 7, 8, 9, 10] rfl ?_
    exact K
  · have K := Kf q
    refine td_aload_n 0 dX10_times_159 rfl ?_
    refine gf_X10_13 rfl kp_85 dX10_times_160 ?_
    refine td_iconst (v := 3) dX10_times_163 (by decide) ?_
    refine td_iload 10 dX10_times_164 rfl ?_
    refine td_iastc (j := 3) kp_87 (by decide) (by unfold vp_in; decide) (by decide) dX10_times_166 ?_
    refine td_aload_n 0 dX10_times_167 rfl ?_
    refine gf_X10_13 rfl kp_85 dX10_times_168 ?_
    refine td_iconst (v := 4) dX10_times_171 (by decide) ?_
    refine td_iload 11 dX10_times_172 rfl ?_
    refine td_iastc (j := 4) kp_87 (by decide) (by unfold vp_in; decide) (by decide) dX10_times_174 ?_
    refine td_aload_n 0 dX10_times_175 rfl ?_
    exact K
set_option maxRecDepth 20000 in
theorem rX10_times_179 {G : td_G} {d : Nat} {Post : td_P} {x1 x2 x3 x4 x5 x6 x7 x8 x9 x10 x11 : Int32} {h : td_H} (K : td_J G d mX10_times Post 185 [(0, .ref 85), (1, .int x1), (2, .int x2), (3, .int x3), (4, .int x4), (5, .int x5), (6, .int x6), (7, .int x7), (8, .int x8), (9, .int x9), (10, .int x10), (11, .int x11), (12, .int 1), (13, .int 0)] [] h) : td_J G d mX10_times Post 179 [(0, .ref 85), (1, .int x1), (2, .int x2), (3, .int x3), (4, .int x4), (5, .int x5), (6, .int x6), (7, .int x7), (8, .int x8), (9, .int x9), (10, .int x10), (11, .int x11)] [] h := by
  refine td_iconst (v := 1) dX10_times_179 (by decide) ?_
  refine td_istore (lv2 := [(0, .ref 85), (1, .int x1), (2, .int x2), (3, .int x3), (4, .int x4), (5, .int x5), (6, .int x6), (7, .int x7), (8, .int x8), (9, .int x9), (10, .int x10), (11, .int x11), (12, .int 1)]) dX10_times_180 (by decide) rfl ?_
  refine td_iconst (v := 0) dX10_times_182 (by decide) ?_
  refine td_istore (lv2 := [(0, .ref 85), (1, .int x1), (2, .int x2), (3, .int x3), (4, .int x4), (5, .int x5), (6, .int x6), (7, .int x7), (8, .int x8), (9, .int x9), (10, .int x10), (11, .int x11), (12, .int 1), (13, .int 0)]) dX10_times_183 (by decide) rfl ?_
  exact K
set_option maxRecDepth 20000 in
theorem rX10_times_185 {G : td_G} {d : Nat} {Post : td_P} {x1 x2 x3 x4 x5 x6 x7 x8 x9 x10 x11 x12 x13 : Int32} {h : td_H} (K : (x4 ≤ x13 → ((x12 = 0 → td_J G d mX10_times Post 279 [(0, .ref 85), (1, .int x1), (2, .int x2), (3, .int x3), (4, .int x4), (5, .int x5), (6, .int x6), (7, .int x7), (8, .int x8), (9, .int x9), (10, .int x10), (11, .int x11), (12, .int x12), (13, .int x13)] [] h) ∧ (¬ x12 = 0 → ((¬ x8 = 0 → td_J G d mX10_times Post 279 [(0, .ref 85), (1, .int x1), (2, .int x2), (3, .int x3), (4, .int x4), (5, .int x5), (6, .int x6), (7, .int x7), (8, .int x8), (9, .int x9), (10, .int x10), (11, .int x11), (12, .int x12), (13, .int x13)] [] h) ∧ (x8 = 0 → td_J G d mX10_times Post 281 [(0, .ref 85), (1, .int x1), (2, .int x2), (3, .int x3), (4, .int x4), (5, .int x5), (6, .int x6), (7, .int x7), (8, .int x8), (9, .int x9), (10, .int x10), (11, .int x11), (12, .int x12), (13, .int x13)] [.int ((10 * x10) + x11)] h))))) ∧ (¬ x4 ≤ x13 → (vp_in (x7 + (2 * x13)) 64 ∧ (vp_in (h 106 (ix (x7 + (2 * x13)))) 12 ∧ ((x12 = 0 → td_J G d mX10_times Post 249 [(0, .ref 85), (1, .int x1), (2, .int x2), (3, .int x3), (4, .int x4), (5, .int x5), (6, .int x6), (7, .int x7), (8, .int x8), (9, .int x9), (10, .int x10), (11, .int x11), (12, .int x12), (13, .int x13), (14, .int (h 94 (ix (h 106 (ix (x7 + (2 * x13)))))))] [] h) ∧ (¬ x12 = 0 → ((0 ≤ (h 94 (ix (h 106 (ix (x7 + (2 * x13)))))) → td_J G d mX10_times Post 228 [(0, .ref 85), (1, .int x1), (2, .int x2), (3, .int x3), (4, .int x4), (5, .int x5), (6, .int x6), (7, .int x7), (8, .int x8), (9, .int x9), (10, .int x10), (11, .int x11), (12, .int x12), (13, .int x13), (14, .int (h 94 (ix (h 106 (ix (x7 + (2 * x13)))))))] [.int (h 94 (ix (h 106 (ix (x7 + (2 * x13))))))] h) ∧ (¬ 0 ≤ (h 94 (ix (h 106 (ix (x7 + (2 * x13)))))) → td_J G d mX10_times Post 228 [(0, .ref 85), (1, .int x1), (2, .int x2), (3, .int x3), (4, .int x4), (5, .int x5), (6, .int x6), (7, .int x7), (8, .int x8), (9, .int x9), (10, .int x10), (11, .int x11), (12, .int x12), (13, .int x13), (14, .int (h 94 (ix (h 106 (ix (x7 + (2 * x13)))))))] [.int 120] h)))))))) : td_J G d mX10_times Post 185 [(0, .ref 85), (1, .int x1), (2, .int x2), (3, .int x3), (4, .int x4), (5, .int x5), (6, .int x6), (7, .int x7), (8, .int x8), (9, .int x9), (10, .int x10), (11, .int x11), (12, .int x12), (13, .int x13)] [] h := by
  refine td_iload 13 dX10_times_185 rfl ?_
  refine td_iload 4 dX10_times_187 rfl ?_
  obtain ⟨Kt, Kf⟩ := K
  refine td_icmp_ge (tgt := 258) dX10_times_189 (by decide) (fun q => ?_) (fun q => ?_)
  · have K := Kt q
    refine td_iload 12 dX10_times_258 rfl ?_
    obtain ⟨Kt, Kf⟩ := K
    refine td_if_eq (tgt := 279) dX10_times_260 (by decide) (fun q => ?_) (fun q => ?_)
    · have K := Kt q
      exact K
    · have K := Kf q
      refine td_iload 8 dX10_times_263 rfl ?_
      obtain ⟨Kt, Kf⟩ := K
      refine td_if_ne (tgt := 279) dX10_times_265 (by decide) (fun q => ?_) (fun q => ?_)
      · have K := Kt q
        exact K
      · have K := Kf q
        refine td_bipush (v := 10) dX10_times_268 (by decide) ?_
        refine td_iload 10 dX10_times_270 rfl ?_
        refine td_imul dX10_times_272 ?_
        refine td_iload 11 dX10_times_273 rfl ?_
        refine td_iadd dX10_times_275 ?_
        refine td_goto (tgt := 281) dX10_times_276 (by decide) ?_
        exact K
  · have K := Kf q
    refine td_aload_n 0 dX10_times_192 rfl ?_
    refine gf_X10_34 rfl kp_85 dX10_times_193 ?_
    refine td_aload_n 0 dX10_times_196 rfl ?_
    refine gf_X10_70 rfl kp_85 dX10_times_197 ?_
    refine td_iload 7 dX10_times_200 rfl ?_
    refine td_iconst (v := 2) dX10_times_202 (by decide) ?_
    refine td_iload 13 dX10_times_203 rfl ?_
    refine td_imul dX10_times_205 ?_
    refine td_iadd dX10_times_206 ?_
    obtain ⟨e207, K⟩ := K
    refine td_ialdc (j := (ix (x7 + (2 * x13)))) kp_106 (by decide) e207 rfl dX10_times_207 ?_
    obtain ⟨e208, K⟩ := K
    refine td_ialdc (j := (ix (h 106 (ix (x7 + (2 * x13)))))) kp_94 (by decide) e208 rfl dX10_times_208 ?_
    refine td_istore (lv2 := [(0, .ref 85), (1, .int x1), (2, .int x2), (3, .int x3), (4, .int x4), (5, .int x5), (6, .int x6), (7, .int x7), (8, .int x8), (9, .int x9), (10, .int x10), (11, .int x11), (12, .int x12), (13, .int x13), (14, .int (h 94 (ix (h 106 (ix (x7 + (2 * x13)))))))]) dX10_times_209 (by decide) rfl ?_
    refine td_iload 12 dX10_times_211 rfl ?_
    obtain ⟨Kt, Kf⟩ := K
    refine td_if_eq (tgt := 249) dX10_times_213 (by decide) (fun q => ?_) (fun q => ?_)
    · have K := Kt q
      exact K
    · have K := Kf q
      refine td_iload 14 dX10_times_216 rfl ?_
      obtain ⟨Kt, Kf⟩ := K
      refine td_if_ge (tgt := 226) dX10_times_218 (by decide) (fun q => ?_) (fun q => ?_)
      · have K := Kt q
        refine td_iload 14 dX10_times_226 rfl ?_
        exact K
      · have K := Kf q
        refine td_bipush (v := 120) dX10_times_221 (by decide) ?_
        refine td_goto (tgt := 228) dX10_times_223 (by decide) ?_
        exact K
set_option maxRecDepth 20000 in
theorem rX10_times_228 {G : td_G} {d : Nat} {Post : td_P} {x1 x2 x3 x4 x5 x6 x7 x8 x9 x10 x11 x12 x13 x14 s0 : Int32} {h : td_H} (K : vp_in ((x7 + (2 * x13)) + 1) 64 ∧ ((¬ s0 = (h 106 (ix ((x7 + (2 * x13)) + 1))) → td_J G d mX10_times Post 249 [(0, .ref 85), (1, .int x1), (2, .int x2), (3, .int x3), (4, .int x4), (5, .int x5), (6, .int x6), (7, .int x7), (8, .int x8), (9, .int x9), (10, .int x10), (11, .int x11), (12, .int x12), (13, .int x13), (14, .int x14)] [] h) ∧ (s0 = (h 106 (ix ((x7 + (2 * x13)) + 1))) → td_J G d mX10_times Post 250 [(0, .ref 85), (1, .int x1), (2, .int x2), (3, .int x3), (4, .int x4), (5, .int x5), (6, .int x6), (7, .int x7), (8, .int x8), (9, .int x9), (10, .int x10), (11, .int x11), (12, .int x12), (13, .int x13), (14, .int x14)] [.int 1] h))) : td_J G d mX10_times Post 228 [(0, .ref 85), (1, .int x1), (2, .int x2), (3, .int x3), (4, .int x4), (5, .int x5), (6, .int x6), (7, .int x7), (8, .int x8), (9, .int x9), (10, .int x10), (11, .int x11), (12, .int x12), (13, .int x13), (14, .int x14)] [.int s0] h := by
  refine td_aload_n 0 dX10_times_228 rfl ?_
  refine gf_X10_70 rfl kp_85 dX10_times_229 ?_
  refine td_iload 7 dX10_times_232 rfl ?_
  refine td_iconst (v := 2) dX10_times_234 (by decide) ?_
  refine td_iload 13 dX10_times_235 rfl ?_
  refine td_imul dX10_times_237 ?_
  refine td_iadd dX10_times_238 ?_
  refine td_iconst (v := 1) dX10_times_239 (by decide) ?_
  refine td_iadd dX10_times_240 ?_
  obtain ⟨e241, K⟩ := K
  refine td_ialdc (j := (ix ((x7 + (2 * x13)) + 1))) kp_106 (by decide) e241 rfl dX10_times_241 ?_
  obtain ⟨Kt, Kf⟩ := K
  refine td_icmp_ne (tgt := 249) dX10_times_242 (by decide) (fun q => ?_) (fun q => ?_)
  · have K := Kt q
    exact K
  · have K := Kf q
    refine td_iconst (v := 1) dX10_times_245 (by decide) ?_
    refine td_goto (tgt := 250) dX10_times_246 (by decide) ?_
    exact K
set_option maxRecDepth 20000 in
theorem rX10_times_249 {G : td_G} {d : Nat} {Post : td_P} {x1 x2 x3 x4 x5 x6 x7 x8 x9 x10 x11 x12 x13 x14 : Int32} {h : td_H} (K : td_J G d mX10_times Post 250 [(0, .ref 85), (1, .int x1), (2, .int x2), (3, .int x3), (4, .int x4), (5, .int x5), (6, .int x6), (7, .int x7), (8, .int x8), (9, .int x9), (10, .int x10), (11, .int x11), (12, .int x12), (13, .int x13), (14, .int x14)] [.int 0] h) : td_J G d mX10_times Post 249 [(0, .ref 85), (1, .int x1), (2, .int x2), (3, .int x3), (4, .int x4), (5, .int x5), (6, .int x6), (7, .int x7), (8, .int x8), (9, .int x9), (10, .int x10), (11, .int x11), (12, .int x12), (13, .int x13), (14, .int x14)] [] h := by
  refine td_iconst (v := 0) dX10_times_249 (by decide) ?_
  exact K
set_option maxRecDepth 20000 in
theorem rX10_times_250 {G : td_G} {d : Nat} {Post : td_P} {x1 x2 x3 x4 x5 x6 x7 x8 x9 x10 x11 x12 x13 x14 s0 : Int32} {h : td_H} (K : td_J G d mX10_times Post 185 [(0, .ref 85), (1, .int x1), (2, .int x2), (3, .int x3), (4, .int x4), (5, .int x5), (6, .int x6), (7, .int x7), (8, .int x8), (9, .int x9), (10, .int x10), (11, .int x11), (12, .int s0), (13, .int (x13 + 1))] [] h) : td_J G d mX10_times Post 250 [(0, .ref 85), (1, .int x1), (2, .int x2), (3, .int x3), (4, .int x4), (5, .int x5), (6, .int x6), (7, .int x7), (8, .int x8), (9, .int x9), (10, .int x10), (11, .int x11), (12, .int x12), (13, .int x13), (14, .int x14)] [.int s0] h := by
  refine td_istore (lv2 := [(0, .ref 85), (1, .int x1), (2, .int x2), (3, .int x3), (4, .int x4), (5, .int x5), (6, .int x6), (7, .int x7), (8, .int x8), (9, .int x9), (10, .int x10), (11, .int x11), (12, .int s0), (13, .int x13), (14, .int x14)]) dX10_times_250 (by decide) rfl ?_
  refine td_iinc 13 (v := x13 + 1) (lv2 := [(0, .ref 85), (1, .int x1), (2, .int x2), (3, .int x3), (4, .int x4), (5, .int x5), (6, .int x6), (7, .int x7), (8, .int x8), (9, .int x9), (10, .int x10), (11, .int x11), (12, .int s0), (13, .int (x13 + 1)), (14, .int x14)]) dX10_times_252 rfl (congrArg (x13 + ·) (by decide)) (by decide) rfl ?_
  refine td_goto (tgt := 185) dX10_times_255 (by decide) ?_
  refine td_drop [0, 1, 2, 3, 4, 5, 6, 7, 8, 9, 10, 11, 12, 13] rfl ?_
  exact K
set_option maxRecDepth 20000 in
theorem rX10_times_279 {G : td_G} {d : Nat} {Post : td_P} {x1 x2 x3 x4 x5 x6 x7 x8 x9 x10 x11 x12 x13 : Int32} {h : td_H} (K : td_J G d mX10_times Post 281 [(0, .ref 85), (1, .int x1), (2, .int x2), (3, .int x3), (4, .int x4), (5, .int x5), (6, .int x6), (7, .int x7), (8, .int x8), (9, .int x9), (10, .int x10), (11, .int x11), (12, .int x12), (13, .int x13)] [.int x9] h) : td_J G d mX10_times Post 279 [(0, .ref 85), (1, .int x1), (2, .int x2), (3, .int x3), (4, .int x4), (5, .int x5), (6, .int x6), (7, .int x7), (8, .int x8), (9, .int x9), (10, .int x10), (11, .int x11), (12, .int x12), (13, .int x13)] [] h := by
  refine td_iload 9 dX10_times_279 rfl ?_
  exact K
set_option maxRecDepth 20000 in
theorem rX10_times_281 {G : td_G} {d : Nat} {Post : td_P} {x1 x2 x3 x4 x5 x6 x7 x8 x9 x10 x11 x12 x13 s0 : Int32} {h : td_H} (K : (x12 = 0 → td_J G d mX10_times Post 295 [(0, .ref 85), (1, .int x1), (2, .int x2), (3, .int x3), (4, .int x4), (5, .int x5), (6, .int x6), (7, .int x7), (8, .int x8), (9, .int s0), (10, .int x10), (11, .int x11), (12, .int x12), (13, .int x13)] [.int 0, .int x8] h) ∧ (¬ x12 = 0 → td_J G d mX10_times Post 295 [(0, .ref 85), (1, .int x1), (2, .int x2), (3, .int x3), (4, .int x4), (5, .int x5), (6, .int x6), (7, .int x7), (8, .int x8), (9, .int s0), (10, .int x10), (11, .int x11), (12, .int x12), (13, .int x13)] [.int 1, .int x8] h)) : td_J G d mX10_times Post 281 [(0, .ref 85), (1, .int x1), (2, .int x2), (3, .int x3), (4, .int x4), (5, .int x5), (6, .int x6), (7, .int x7), (8, .int x8), (9, .int x9), (10, .int x10), (11, .int x11), (12, .int x12), (13, .int x13)] [.int s0] h := by
  refine td_istore (lv2 := [(0, .ref 85), (1, .int x1), (2, .int x2), (3, .int x3), (4, .int x4), (5, .int x5), (6, .int x6), (7, .int x7), (8, .int x8), (9, .int s0), (10, .int x10), (11, .int x11), (12, .int x12), (13, .int x13)]) dX10_times_281 (by decide) rfl ?_
  refine td_iload 8 dX10_times_283 rfl ?_
  refine td_iload 12 dX10_times_285 rfl ?_
  obtain ⟨Kt, Kf⟩ := K
  refine td_if_eq (tgt := 294) dX10_times_287 (by decide) (fun q => ?_) (fun q => ?_)
  · have K := Kt q
    refine td_iconst (v := 0) dX10_times_294 (by decide) ?_
    exact K
  · have K := Kf q
    refine td_iconst (v := 1) dX10_times_290 (by decide) ?_
    refine td_goto (tgt := 295) dX10_times_291 (by decide) ?_
    exact K
set_option maxRecDepth 20000 in
theorem rX10_times_295 {G : td_G} {d : Nat} {Post : td_P} {x1 x2 x3 x4 x5 x6 x7 x8 x9 x10 x11 x12 x13 s0 s1 : Int32} {h : td_H} (K : td_J G d mX10_times Post 152 [(0, .ref 85), (1, .int x1), (2, .int x2), (3, .int x3), (4, .int x4), (5, .int x5), (6, .int x6), (7, .int x7), (8, .int (s0 + s1)), (9, .int x9), (10, .int x10), (11, .int (x11 + 1))] [] h) : td_J G d mX10_times Post 295 [(0, .ref 85), (1, .int x1), (2, .int x2), (3, .int x3), (4, .int x4), (5, .int x5), (6, .int x6), (7, .int x7), (8, .int x8), (9, .int x9), (10, .int x10), (11, .int x11), (12, .int x12), (13, .int x13)] [.int s1, .int s0] h := by
  refine td_iadd dX10_times_295 ?_
  refine td_istore (lv2 := [(0, .ref 85), (1, .int x1), (2, .int x2), (3, .int x3), (4, .int x4), (5, .int x5), (6, .int x6), (7, .int x7), (8, .int (s0 + s1)), (9, .int x9), (10, .int x10), (11, .int x11), (12, .int x12), (13, .int x13)]) dX10_times_296 (by decide) rfl ?_
  refine td_iinc 11 (v := x11 + 1) (lv2 := [(0, .ref 85), (1, .int x1), (2, .int x2), (3, .int x3), (4, .int x4), (5, .int x5), (6, .int x6), (7, .int x7), (8, .int (s0 + s1)), (9, .int x9), (10, .int x10), (11, .int (x11 + 1)), (12, .int x12), (13, .int x13)]) dX10_times_298 rfl (congrArg (x11 + ·) (by decide)) (by decide) rfl ?_
  refine td_goto (tgt := 152) dX10_times_301 (by decide) ?_
  refine td_drop [0, 1, 2, 3, 4, 5, 6, 7, 8, 9, 10, 11] rfl ?_
  exact K
set_option maxRecDepth 20000 in
theorem rX10_times_349 {G : td_G} {d : Nat} {Post : td_P} {x1 x2 x3 x4 x5 x6 x7 x8 x9 x10 s0 : Int32} {h : td_H} (K : Post (some (.int s0)) h) : td_J G d mX10_times Post 349 [(0, .ref 85), (1, .int x1), (2, .int x2), (3, .int x3), (4, .int x4), (5, .int x5), (6, .int x6), (7, .int x7), (8, .int x8), (9, .int x9), (10, .int x10)] [.int s0] h := by
  exact td_ireturn rfl dX10_times_349 K
set_option maxRecDepth 20000 in
theorem rX10_without_0 {G : td_G} {d : Nat} {Post : td_P} {x1 : Int32} {h : td_H} (K : td_J G d mX10_without Post 2 [(0, .ref 85), (1, .int x1)] [.int x1, .ref 85] h) : td_J G d mX10_without Post 0 [(0, .ref 85), (1, .int x1)] [] h := by
  refine td_aload_n 0 dX10_without_0 rfl ?_
  refine td_iload_n 1 dX10_without_1 rfl ?_
  exact K
set_option maxRecDepth 20000 in
theorem rX10_without_5 {G : td_G} {d : Nat} {Post : td_P} {x1 s0 : Int32} {h : td_H} (K : (¬ s0 = 0 → td_J G d mX10_without Post 13 [(0, .ref 85), (1, .int x1)] [.ref 85] h) ∧ (s0 = 0 → (Post (some (.int (-100001))) h))) : td_J G d mX10_without Post 5 [(0, .ref 85), (1, .int x1)] [.int s0] h := by
  obtain ⟨Kt, Kf⟩ := K
  refine td_if_ne (tgt := 12) dX10_without_5 (by decide) (fun q => ?_) (fun q => ?_)
  · have K := Kt q
    refine td_aload_n 0 dX10_without_12 rfl ?_
    exact K
  · have K := Kf q
    refine td_ldcw (v := (-100001)) kw_X10_261 dX10_without_8 ?_
    exact td_ireturn rfl dX10_without_11 K
set_option maxRecDepth 20000 in
theorem rX10_without_16 {G : td_G} {d : Nat} {Post : td_P} {x1 : Int32} {h : td_H} (K : td_J G d mX10_without Post 17 [(0, .ref 85), (1, .int x1)] [.ref 85] h) : td_J G d mX10_without Post 16 [(0, .ref 85), (1, .int x1)] [] h := by
  refine td_aload_n 0 dX10_without_16 rfl ?_
  exact K
set_option maxRecDepth 20000 in
theorem rX10_without_20 {G : td_G} {d : Nat} {Post : td_P} {x1 : Int32} {h : td_H} (K : td_J G d mX10_without Post 31 [(0, .ref 85), (1, .int x1), (2, .int (h 85 20))] [.ref 85] (hu h 85 2 x1)) : td_J G d mX10_without Post 20 [(0, .ref 85), (1, .int x1)] [] h := by
  refine td_aload_n 0 dX10_without_20 rfl ?_
  refine gf_X10_186 rfl kp_85 dX10_without_21 ?_
  refine td_istore_n (lv2 := [(0, .ref 85), (1, .int x1), (2, .int (h 85 20))]) dX10_without_24 (by decide) rfl ?_
  refine td_aload_n 0 dX10_without_25 rfl ?_
  refine td_iload_n 1 dX10_without_26 rfl ?_
  refine pf_X10_90 rfl kp_85 dX10_without_27 ?_
  refine td_aload_n 0 dX10_without_30 rfl ?_
  exact K
set_option maxRecDepth 20000 in
theorem rX10_without_34 {G : td_G} {d : Nat} {Post : td_P} {x1 x2 : Int32} {h : td_H} (K : Post (some (.int (x2 - (h 85 20)))) h) : td_J G d mX10_without Post 34 [(0, .ref 85), (1, .int x1), (2, .int x2)] [] h := by
  refine td_iload_n 2 dX10_without_34 rfl ?_
  refine td_aload_n 0 dX10_without_35 rfl ?_
  refine gf_X10_186 rfl kp_85 dX10_without_36 ?_
  refine td_isub dX10_without_39 ?_
  exact td_ireturn rfl dX10_without_40 K
set_option maxRecDepth 20000 in
theorem rX10_image_0 {G : td_G} {d : Nat} {Post : td_P} {h : td_H} (K : td_J G d mX10_image Post 2 [(0, .ref 85), (1, .int 0)] [] h) : td_J G d mX10_image Post 0 [(0, .ref 85)] [] h := by
  refine td_iconst (v := 0) dX10_image_0 (by decide) ?_
  refine td_istore_n (lv2 := [(0, .ref 85), (1, .int 0)]) dX10_image_1 (by decide) rfl ?_
  exact K
set_option maxRecDepth 20000 in
theorem rX10_image_2 {G : td_G} {d : Nat} {Post : td_P} {x1 : Int32} {h : td_H} (K : (46 ≤ x1 → (Post (some (.int 1)) (hu h 85 27 1))) ∧ (¬ 46 ≤ x1 → (vp_in x1 46 ∧ (vp_in x1 46 ∧ (td_J G d mX10_image Post 2 [(0, .ref 85), (1, .int (x1 + 1))] [] (hu h 103 (ix x1) (h 86 (ix x1)))))))) : td_J G d mX10_image Post 2 [(0, .ref 85), (1, .int x1)] [] h := by
  refine td_iload_n 1 dX10_image_2 rfl ?_
  refine td_bipush (v := 46) dX10_image_3 (by decide) ?_
  obtain ⟨Kt, Kf⟩ := K
  refine td_icmp_ge (tgt := 26) dX10_image_5 (by decide) (fun q => ?_) (fun q => ?_)
  · have K := Kt q
    refine td_aload_n 0 dX10_image_26 rfl ?_
    refine td_iconst (v := 1) dX10_image_27 (by decide) ?_
    refine pf_X10_262 rfl kp_85 (by decide) dX10_image_28 ?_
    refine td_iconst (v := 1) dX10_image_31 (by decide) ?_
    exact td_ireturn rfl dX10_image_32 K
  · have K := Kf q
    refine td_aload_n 0 dX10_image_8 rfl ?_
    refine gf_X10_61 rfl kp_85 dX10_image_9 ?_
    refine td_iload_n 1 dX10_image_12 rfl ?_
    refine td_aload_n 0 dX10_image_13 rfl ?_
    refine gf_X10_7 rfl kp_85 dX10_image_14 ?_
    refine td_iload_n 1 dX10_image_17 rfl ?_
    obtain ⟨e18, K⟩ := K
    refine td_ialdc (j := (ix x1)) kp_86 (by decide) e18 rfl dX10_image_18 ?_
    obtain ⟨e19, K⟩ := K
    refine td_iastc (j := (ix x1)) kp_103 (by decide) e19 rfl dX10_image_19 ?_
    refine td_iinc 1 (v := x1 + 1) (lv2 := [(0, .ref 85), (1, .int (x1 + 1))]) dX10_image_20 rfl (congrArg (x1 + ·) (by decide)) (by decide) rfl ?_
    refine td_goto (tgt := 2) dX10_image_23 (by decide) ?_
    exact K
set_option maxRecDepth 20000 in
theorem rX10_restore_0 {G : td_G} {d : Nat} {Post : td_P} {h : td_H} (K : (¬ (h 85 27) = 0 → td_J G d mX10_restore Post 12 [(0, .ref 85), (1, .int 0)] [] h) ∧ ((h 85 27) = 0 → (Post (some (.int (-4))) h))) : td_J G d mX10_restore Post 0 [(0, .ref 85)] [] h := by
  refine td_aload_n 0 dX10_restore_0 rfl ?_
  refine gf_X10_262 rfl kp_85 dX10_restore_1 ?_
  obtain ⟨Kt, Kf⟩ := K
  refine td_if_ne (tgt := 10) dX10_restore_4 (by decide) (fun q => ?_) (fun q => ?_)
  · have K := Kt q
    refine td_iconst (v := 0) dX10_restore_10 (by decide) ?_
    refine td_istore_n (lv2 := [(0, .ref 85), (1, .int 0)]) dX10_restore_11 (by decide) rfl ?_
    exact K
  · have K := Kf q
    refine td_bipush (v := (-4)) dX10_restore_7 (by decide) ?_
    exact td_ireturn rfl dX10_restore_9 K
set_option maxRecDepth 20000 in
theorem rX10_restore_12 {G : td_G} {d : Nat} {Post : td_P} {x1 : Int32} {h : td_H} (K : (46 ≤ x1 → (Post (some (.int 1)) h)) ∧ (¬ 46 ≤ x1 → (vp_in x1 46 ∧ (vp_in x1 46 ∧ (td_J G d mX10_restore Post 12 [(0, .ref 85), (1, .int (x1 + 1))] [] (hu h 86 (ix x1) (h 103 (ix x1)))))))) : td_J G d mX10_restore Post 12 [(0, .ref 85), (1, .int x1)] [] h := by
  refine td_iload_n 1 dX10_restore_12 rfl ?_
  refine td_bipush (v := 46) dX10_restore_13 (by decide) ?_
  obtain ⟨Kt, Kf⟩ := K
  refine td_icmp_ge (tgt := 36) dX10_restore_15 (by decide) (fun q => ?_) (fun q => ?_)
  · have K := Kt q
    refine td_iconst (v := 1) dX10_restore_36 (by decide) ?_
    exact td_ireturn rfl dX10_restore_37 K
  · have K := Kf q
    refine td_aload_n 0 dX10_restore_18 rfl ?_
    refine gf_X10_7 rfl kp_85 dX10_restore_19 ?_
    refine td_iload_n 1 dX10_restore_22 rfl ?_
    refine td_aload_n 0 dX10_restore_23 rfl ?_
    refine gf_X10_61 rfl kp_85 dX10_restore_24 ?_
    refine td_iload_n 1 dX10_restore_27 rfl ?_
    obtain ⟨e28, K⟩ := K
    refine td_ialdc (j := (ix x1)) kp_103 (by decide) e28 rfl dX10_restore_28 ?_
    obtain ⟨e29, K⟩ := K
    refine td_iastc (j := (ix x1)) kp_86 (by decide) e29 rfl dX10_restore_29 ?_
    refine td_iinc 1 (v := x1 + 1) (lv2 := [(0, .ref 85), (1, .int (x1 + 1))]) dX10_restore_30 rfl (congrArg (x1 + ·) (by decide)) (by decide) rfl ?_
    refine td_goto (tgt := 12) dX10_restore_33 (by decide) ?_
    exact K
set_option maxRecDepth 20000 in
theorem rX10_isSheet_0 {G : td_G} {d : Nat} {Post : td_P} {x0 x1 : Int32} {h : td_H} (K : td_J G d mX10_isSheet Post 6 [(0, .int x0), (1, .int x1)] [.long 3, .long 0, .long x0.toInt64] h) : td_J G d mX10_isSheet Post 0 [(0, .int x0), (1, .int x1)] [] h := by
  refine td_iload_n 0 dX10_isSheet_0 rfl ?_
  refine td_i2l dX10_isSheet_1 ?_
  refine td_lconst (v := 0) dX10_isSheet_2 (by decide) ?_
  refine td_ldc2 (v := 3) kw_X10_226 dX10_isSheet_3 ?_
  exact K
set_option maxRecDepth 20000 in
theorem rX10_isSheet_9 {G : td_G} {d : Nat} {Post : td_P} {x0 x1 s0 : Int32} {h : td_H} (K : (s0 = 0 → td_J G d mX10_isSheet Post 28 [(0, .int x0), (1, .int x1)] [] h) ∧ (¬ s0 = 0 → td_J G d mX10_isSheet Post 18 [(0, .int x0), (1, .int x1)] [.long 2, .long 0, .long x1.toInt64] h)) : td_J G d mX10_isSheet Post 9 [(0, .int x0), (1, .int x1)] [.int s0] h := by
  obtain ⟨Kt, Kf⟩ := K
  refine td_if_eq (tgt := 28) dX10_isSheet_9 (by decide) (fun q => ?_) (fun q => ?_)
  · have K := Kt q
    exact K
  · have K := Kf q
    refine td_iload_n 1 dX10_isSheet_12 rfl ?_
    refine td_i2l dX10_isSheet_13 ?_
    refine td_lconst (v := 0) dX10_isSheet_14 (by decide) ?_
    refine td_ldc2 (v := 2) kw_X10_253 dX10_isSheet_15 ?_
    exact K
set_option maxRecDepth 20000 in
theorem rX10_isSheet_21 {G : td_G} {d : Nat} {Post : td_P} {x0 x1 s0 : Int32} {h : td_H} (K : (s0 = 0 → td_J G d mX10_isSheet Post 28 [(0, .int x0), (1, .int x1)] [] h) ∧ (¬ s0 = 0 → td_J G d mX10_isSheet Post 29 [(0, .int x0), (1, .int x1)] [.int 1] h)) : td_J G d mX10_isSheet Post 21 [(0, .int x0), (1, .int x1)] [.int s0] h := by
  obtain ⟨Kt, Kf⟩ := K
  refine td_if_eq (tgt := 28) dX10_isSheet_21 (by decide) (fun q => ?_) (fun q => ?_)
  · have K := Kt q
    exact K
  · have K := Kf q
    refine td_iconst (v := 1) dX10_isSheet_24 (by decide) ?_
    refine td_goto (tgt := 29) dX10_isSheet_25 (by decide) ?_
    exact K
set_option maxRecDepth 20000 in
theorem rX10_isSheet_28 {G : td_G} {d : Nat} {Post : td_P} {x0 x1 : Int32} {h : td_H} (K : td_J G d mX10_isSheet Post 29 [(0, .int x0), (1, .int x1)] [.int 0] h) : td_J G d mX10_isSheet Post 28 [(0, .int x0), (1, .int x1)] [] h := by
  refine td_iconst (v := 0) dX10_isSheet_28 (by decide) ?_
  exact K
set_option maxRecDepth 20000 in
theorem rX10_isSheet_29 {G : td_G} {d : Nat} {Post : td_P} {x0 x1 s0 : Int32} {h : td_H} (K : (s0 = 0 ∨ s0 = 1) ∧ Post (some (.int s0)) h) : td_J G d mX10_isSheet Post 29 [(0, .int x0), (1, .int x1)] [.int s0] h := by
  obtain ⟨e29, K⟩ := K
  exact td_zreturn rfl (td_nb e29) dX10_isSheet_29 K
set_option maxRecDepth 20000 in
theorem rX10_sheet_0 {G : td_G} {d : Nat} {Post : td_P} {x1 x2 x3 : Int32} {h : td_H} (K : td_J G d mX10_sheet Post 2 [(0, .ref 85), (1, .int x1), (2, .int x2), (3, .int x3)] [.int x2, .int x1] h) : td_J G d mX10_sheet Post 0 [(0, .ref 85), (1, .int x1), (2, .int x2), (3, .int x3)] [] h := by
  refine td_iload_n 1 dX10_sheet_0 rfl ?_
  refine td_iload_n 2 dX10_sheet_1 rfl ?_
  exact K
set_option maxRecDepth 20000 in
theorem rX10_sheet_5 {G : td_G} {d : Nat} {Post : td_P} {x1 x2 x3 s0 : Int32} {h : td_H} (K : (s0 = 0 → td_J G d mX10_sheet Post 14 [(0, .ref 85), (1, .int x1), (2, .int x2), (3, .int x3)] [] h) ∧ (¬ s0 = 0 → ((x3 ≤ 16 → ((0 ≤ x3 → (vp_in x1 4 ∧ (vp_in x1 4 ∧ (td_J G d mX10_sheet Post 40 [(0, .ref 85), (1, .int x1), (2, .int x2), (3, .int x3), (4, .int 0)] [] (hu (hu h 104 (ix x1) x2) 105 (ix x1) x3))))) ∧ (¬ 0 ≤ x3 → (Post (some (.int (-14))) h)))) ∧ (¬ x3 ≤ 16 → td_J G d mX10_sheet Post 14 [(0, .ref 85), (1, .int x1), (2, .int x2), (3, .int x3)] [] h)))) : td_J G d mX10_sheet Post 5 [(0, .ref 85), (1, .int x1), (2, .int x2), (3, .int x3)] [.int s0] h := by
  obtain ⟨Kt, Kf⟩ := K
  refine td_if_eq (tgt := 14) dX10_sheet_5 (by decide) (fun q => ?_) (fun q => ?_)
  · have K := Kt q
    exact K
  · have K := Kf q
    refine td_iload_n 3 dX10_sheet_8 rfl ?_
    refine td_bipush (v := 16) dX10_sheet_9 (by decide) ?_
    obtain ⟨Kt, Kf⟩ := K
    refine td_icmp_le (tgt := 16) dX10_sheet_11 (by decide) (fun q => ?_) (fun q => ?_)
    · have K := Kt q
      refine td_iload_n 3 dX10_sheet_16 rfl ?_
      obtain ⟨Kt, Kf⟩ := K
      refine td_if_ge (tgt := 23) dX10_sheet_17 (by decide) (fun q => ?_) (fun q => ?_)
      · have K := Kt q
        refine td_aload_n 0 dX10_sheet_23 rfl ?_
        refine gf_X10_64 rfl kp_85 dX10_sheet_24 ?_
        refine td_iload_n 1 dX10_sheet_27 rfl ?_
        refine td_iload_n 2 dX10_sheet_28 rfl ?_
        obtain ⟨e29, K⟩ := K
        refine td_iastc (j := (ix x1)) kp_104 (by decide) e29 rfl dX10_sheet_29 ?_
        refine td_aload_n 0 dX10_sheet_30 rfl ?_
        refine gf_X10_67 rfl kp_85 dX10_sheet_31 ?_
        refine td_iload_n 1 dX10_sheet_34 rfl ?_
        refine td_iload_n 3 dX10_sheet_35 rfl ?_
        obtain ⟨e36, K⟩ := K
        refine td_iastc (j := (ix x1)) kp_105 (by decide) e36 rfl dX10_sheet_36 ?_
        refine td_iconst (v := 0) dX10_sheet_37 (by decide) ?_
        refine td_istore (lv2 := [(0, .ref 85), (1, .int x1), (2, .int x2), (3, .int x3), (4, .int 0)]) dX10_sheet_38 (by decide) rfl ?_
        exact K
      · have K := Kf q
        refine td_bipush (v := (-14)) dX10_sheet_20 (by decide) ?_
        exact td_ireturn rfl dX10_sheet_22 K
    · have K := Kf q
      exact K
set_option maxRecDepth 20000 in
theorem rX10_sheet_14 {G : td_G} {d : Nat} {Post : td_P} {x1 x2 x3 : Int32} {h : td_H} (K : Post (some (.int (-1))) h) : td_J G d mX10_sheet Post 14 [(0, .ref 85), (1, .int x1), (2, .int x2), (3, .int x3)] [] h := by
  refine td_iconst (v := (-1)) dX10_sheet_14 (by decide) ?_
  exact td_ireturn rfl dX10_sheet_15 K
set_option maxRecDepth 20000 in
theorem rX10_sheet_40 {G : td_G} {d : Nat} {Post : td_P} {x1 x2 x3 x4 : Int32} {h : td_H} (K : (16 ≤ x4 → (Post (some (.int x3)) h)) ∧ (¬ 16 ≤ x4 → (vp_in ((16 * x1) + x4) 64 ∧ (td_J G d mX10_sheet Post 40 [(0, .ref 85), (1, .int x1), (2, .int x2), (3, .int x3), (4, .int (x4 + 1))] [] (hu h 106 (ix ((16 * x1) + x4)) 0))))) : td_J G d mX10_sheet Post 40 [(0, .ref 85), (1, .int x1), (2, .int x2), (3, .int x3), (4, .int x4)] [] h := by
  refine td_iload 4 dX10_sheet_40 rfl ?_
  refine td_bipush (v := 16) dX10_sheet_42 (by decide) ?_
  obtain ⟨Kt, Kf⟩ := K
  refine td_icmp_ge (tgt := 66) dX10_sheet_44 (by decide) (fun q => ?_) (fun q => ?_)
  · have K := Kt q
    refine td_iload_n 3 dX10_sheet_66 rfl ?_
    exact td_ireturn rfl dX10_sheet_67 K
  · have K := Kf q
    refine td_aload_n 0 dX10_sheet_47 rfl ?_
    refine gf_X10_70 rfl kp_85 dX10_sheet_48 ?_
    refine td_bipush (v := 16) dX10_sheet_51 (by decide) ?_
    refine td_iload_n 1 dX10_sheet_53 rfl ?_
    refine td_imul dX10_sheet_54 ?_
    refine td_iload 4 dX10_sheet_55 rfl ?_
    refine td_iadd dX10_sheet_57 ?_
    refine td_iconst (v := 0) dX10_sheet_58 (by decide) ?_
    obtain ⟨e59, K⟩ := K
    refine td_iastc (j := (ix ((16 * x1) + x4))) kp_106 (by decide) e59 rfl dX10_sheet_59 ?_
    refine td_iinc 4 (v := x4 + 1) (lv2 := [(0, .ref 85), (1, .int x1), (2, .int x2), (3, .int x3), (4, .int (x4 + 1))]) dX10_sheet_60 rfl (congrArg (x4 + ·) (by decide)) (by decide) rfl ?_
    refine td_goto (tgt := 40) dX10_sheet_63 (by decide) ?_
    exact K
set_option maxRecDepth 20000 in
theorem rX10_drop_0 {G : td_G} {d : Nat} {Post : td_P} {x1 : Int32} {h : td_H} (K : td_J G d mX10_drop Post 6 [(0, .ref 85), (1, .int x1)] [.long 3, .long 0, .long x1.toInt64] h) : td_J G d mX10_drop Post 0 [(0, .ref 85), (1, .int x1)] [] h := by
  refine td_iload_n 1 dX10_drop_0 rfl ?_
  refine td_i2l dX10_drop_1 ?_
  refine td_lconst (v := 0) dX10_drop_2 (by decide) ?_
  refine td_ldc2 (v := 3) kw_X10_226 dX10_drop_3 ?_
  exact K
set_option maxRecDepth 20000 in
theorem rX10_drop_9 {G : td_G} {d : Nat} {Post : td_P} {x1 s0 : Int32} {h : td_H} (K : (¬ s0 = 0 → (vp_in x1 4 ∧ ((0 ≤ (h 104 (ix x1)) → (vp_in x1 4 ∧ (vp_in x1 4 ∧ (Post (some (.int ((hu h 104 (ix x1) (-1)) 105 (ix x1)))) (hu h 104 (ix x1) (-1)))))) ∧ (¬ 0 ≤ (h 104 (ix x1)) → (Post (some (.int (-11))) h))))) ∧ (s0 = 0 → (Post (some (.int (-1))) h))) : td_J G d mX10_drop Post 9 [(0, .ref 85), (1, .int x1)] [.int s0] h := by
  obtain ⟨Kt, Kf⟩ := K
  refine td_if_ne (tgt := 14) dX10_drop_9 (by decide) (fun q => ?_) (fun q => ?_)
  · have K := Kt q
    refine td_aload_n 0 dX10_drop_14 rfl ?_
    refine gf_X10_64 rfl kp_85 dX10_drop_15 ?_
    refine td_iload_n 1 dX10_drop_18 rfl ?_
    obtain ⟨e19, K⟩ := K
    refine td_ialdc (j := (ix x1)) kp_104 (by decide) e19 rfl dX10_drop_19 ?_
    obtain ⟨Kt, Kf⟩ := K
    refine td_if_ge (tgt := 26) dX10_drop_20 (by decide) (fun q => ?_) (fun q => ?_)
    · have K := Kt q
      refine td_aload_n 0 dX10_drop_26 rfl ?_
      refine gf_X10_64 rfl kp_85 dX10_drop_27 ?_
      refine td_iload_n 1 dX10_drop_30 rfl ?_
      refine td_iconst (v := (-1)) dX10_drop_31 (by decide) ?_
      obtain ⟨e32, K⟩ := K
      refine td_iastc (j := (ix x1)) kp_104 (by decide) e32 rfl dX10_drop_32 ?_
      refine td_aload_n 0 dX10_drop_33 rfl ?_
      refine gf_X10_67 rfl kp_85 dX10_drop_34 ?_
      refine td_iload_n 1 dX10_drop_37 rfl ?_
      obtain ⟨e38, K⟩ := K
      refine td_ialdc (j := (ix x1)) kp_105 (by decide) e38 rfl dX10_drop_38 ?_
      exact td_ireturn rfl dX10_drop_39 K
    · have K := Kf q
      refine td_bipush (v := (-11)) dX10_drop_23 (by decide) ?_
      exact td_ireturn rfl dX10_drop_25 K
  · have K := Kf q
    refine td_iconst (v := (-1)) dX10_drop_12 (by decide) ?_
    exact td_ireturn rfl dX10_drop_13 K
set_option maxRecDepth 20000 in
theorem rX10_lacksRow_0 {G : td_G} {d : Nat} {Post : td_P} {x1 x2 x3 x4 : Int32} {h : td_H} (K : vp_in x1 4 ∧ (((h 104 (ix x1)) = x2 → (vp_in x1 4 ∧ (td_J G d mX10_lacksRow Post 40 [(0, .ref 85), (1, .int x1), (2, .int x2), (3, .int x3), (4, .int x4)] [.long (((h 105 (ix x1)) - x4).toInt64), .long 0, .long x3.toInt64] h))) ∧ (¬ (h 104 (ix x1)) = x2 → (vp_in x1 4 ∧ ((0 ≤ (h 104 (ix x1)) → td_J G d mX10_lacksRow Post 26 [(0, .ref 85), (1, .int x1), (2, .int x2), (3, .int x3), (4, .int x4)] [.int (-12)] h) ∧ (¬ 0 ≤ (h 104 (ix x1)) → td_J G d mX10_lacksRow Post 26 [(0, .ref 85), (1, .int x1), (2, .int x2), (3, .int x3), (4, .int x4)] [.int (-11)] h)))))) : td_J G d mX10_lacksRow Post 0 [(0, .ref 85), (1, .int x1), (2, .int x2), (3, .int x3), (4, .int x4)] [] h := by
  refine td_aload_n 0 dX10_lacksRow_0 rfl ?_
  refine gf_X10_64 rfl kp_85 dX10_lacksRow_1 ?_
  refine td_iload_n 1 dX10_lacksRow_4 rfl ?_
  obtain ⟨e5, K⟩ := K
  refine td_ialdc (j := (ix x1)) kp_104 (by decide) e5 rfl dX10_lacksRow_5 ?_
  refine td_iload_n 2 dX10_lacksRow_6 rfl ?_
  obtain ⟨Kt, Kf⟩ := K
  refine td_icmp_eq (tgt := 27) dX10_lacksRow_7 (by decide) (fun q => ?_) (fun q => ?_)
  · have K := Kt q
    refine td_iload_n 3 dX10_lacksRow_27 rfl ?_
    refine td_i2l dX10_lacksRow_28 ?_
    refine td_lconst (v := 0) dX10_lacksRow_29 (by decide) ?_
    refine td_aload_n 0 dX10_lacksRow_30 rfl ?_
    refine gf_X10_67 rfl kp_85 dX10_lacksRow_31 ?_
    refine td_iload_n 1 dX10_lacksRow_34 rfl ?_
    obtain ⟨e35, K⟩ := K
    refine td_ialdc (j := (ix x1)) kp_105 (by decide) e35 rfl dX10_lacksRow_35 ?_
    refine td_iload 4 dX10_lacksRow_36 rfl ?_
    refine td_isub dX10_lacksRow_38 ?_
    refine td_i2l dX10_lacksRow_39 ?_
    exact K
  · have K := Kf q
    refine td_aload_n 0 dX10_lacksRow_10 rfl ?_
    refine gf_X10_64 rfl kp_85 dX10_lacksRow_11 ?_
    refine td_iload_n 1 dX10_lacksRow_14 rfl ?_
    obtain ⟨e15, K⟩ := K
    refine td_ialdc (j := (ix x1)) kp_104 (by decide) e15 rfl dX10_lacksRow_15 ?_
    obtain ⟨Kt, Kf⟩ := K
    refine td_if_ge (tgt := 24) dX10_lacksRow_16 (by decide) (fun q => ?_) (fun q => ?_)
    · have K := Kt q
      refine td_bipush (v := (-12)) dX10_lacksRow_24 (by decide) ?_
      exact K
    · have K := Kf q
      refine td_bipush (v := (-11)) dX10_lacksRow_19 (by decide) ?_
      refine td_goto (tgt := 26) dX10_lacksRow_21 (by decide) ?_
      exact K
set_option maxRecDepth 20000 in
theorem rX10_lacksRow_26 {G : td_G} {d : Nat} {Post : td_P} {x1 x2 x3 x4 s0 : Int32} {h : td_H} (K : Post (some (.int s0)) h) : td_J G d mX10_lacksRow Post 26 [(0, .ref 85), (1, .int x1), (2, .int x2), (3, .int x3), (4, .int x4)] [.int s0] h := by
  exact td_ireturn rfl dX10_lacksRow_26 K
set_option maxRecDepth 20000 in
theorem rX10_lacksRow_43 {G : td_G} {d : Nat} {Post : td_P} {x1 x2 x3 x4 s0 : Int32} {h : td_H} (K : (s0 = 0 → td_J G d mX10_lacksRow Post 52 [(0, .ref 85), (1, .int x1), (2, .int x2), (3, .int x3), (4, .int x4)] [.int (-13)] h) ∧ (¬ s0 = 0 → td_J G d mX10_lacksRow Post 52 [(0, .ref 85), (1, .int x1), (2, .int x2), (3, .int x3), (4, .int x4)] [.int 0] h)) : td_J G d mX10_lacksRow Post 43 [(0, .ref 85), (1, .int x1), (2, .int x2), (3, .int x3), (4, .int x4)] [.int s0] h := by
  obtain ⟨Kt, Kf⟩ := K
  refine td_if_eq (tgt := 50) dX10_lacksRow_43 (by decide) (fun q => ?_) (fun q => ?_)
  · have K := Kt q
    refine td_bipush (v := (-13)) dX10_lacksRow_50 (by decide) ?_
    exact K
  · have K := Kf q
    refine td_iconst (v := 0) dX10_lacksRow_46 (by decide) ?_
    refine td_goto (tgt := 52) dX10_lacksRow_47 (by decide) ?_
    exact K
set_option maxRecDepth 20000 in
theorem rX10_lacksRow_52 {G : td_G} {d : Nat} {Post : td_P} {x1 x2 x3 x4 s0 : Int32} {h : td_H} (K : Post (some (.int s0)) h) : td_J G d mX10_lacksRow Post 52 [(0, .ref 85), (1, .int x1), (2, .int x2), (3, .int x3), (4, .int x4)] [.int s0] h := by
  exact td_ireturn rfl dX10_lacksRow_52 K
set_option maxRecDepth 20000 in
theorem rX10_cutTo_0 {G : td_G} {d : Nat} {Post : td_P} {x0 x1 : Int32} {h : td_H} (K : (¬ x0 = 0 → ((¬ x0 = 1 → td_J G d mX10_cutTo Post 30 [(0, .int x0), (1, .int x1)] [.int x1] h) ∧ (x0 = 1 → td_J G d mX10_cutTo Post 30 [(0, .int x0), (1, .int x1)] [.int (jshr (jshl x1 16) 16)] h))) ∧ (x0 = 0 → td_J G d mX10_cutTo Post 30 [(0, .int x0), (1, .int x1)] [.int (jshr (jshl x1 24) 24)] h)) : td_J G d mX10_cutTo Post 0 [(0, .int x0), (1, .int x1)] [] h := by
  refine td_iload_n 0 dX10_cutTo_0 rfl ?_
  obtain ⟨Kt, Kf⟩ := K
  refine td_if_ne (tgt := 14) dX10_cutTo_1 (by decide) (fun q => ?_) (fun q => ?_)
  · have K := Kt q
    refine td_iload_n 0 dX10_cutTo_14 rfl ?_
    refine td_iconst (v := 1) dX10_cutTo_15 (by decide) ?_
    obtain ⟨Kt, Kf⟩ := K
    refine td_icmp_ne (tgt := 29) dX10_cutTo_16 (by decide) (fun q => ?_) (fun q => ?_)
    · have K := Kt q
      refine td_iload_n 1 dX10_cutTo_29 rfl ?_
      exact K
    · have K := Kf q
      refine td_iload_n 1 dX10_cutTo_19 rfl ?_
      refine td_bipush (v := 16) dX10_cutTo_20 (by decide) ?_
      refine td_ishl dX10_cutTo_22 ?_
      refine td_bipush (v := 16) dX10_cutTo_23 (by decide) ?_
      refine td_ishr dX10_cutTo_25 ?_
      refine td_goto (tgt := 30) dX10_cutTo_26 (by decide) ?_
      exact K
  · have K := Kf q
    refine td_iload_n 1 dX10_cutTo_4 rfl ?_
    refine td_bipush (v := 24) dX10_cutTo_5 (by decide) ?_
    refine td_ishl dX10_cutTo_7 ?_
    refine td_bipush (v := 24) dX10_cutTo_8 (by decide) ?_
    refine td_ishr dX10_cutTo_10 ?_
    refine td_goto (tgt := 30) dX10_cutTo_11 (by decide) ?_
    exact K
set_option maxRecDepth 20000 in
theorem rX10_cutTo_30 {G : td_G} {d : Nat} {Post : td_P} {x0 x1 s0 : Int32} {h : td_H} (K : Post (some (.int s0)) h) : td_J G d mX10_cutTo Post 30 [(0, .int x0), (1, .int x1)] [.int s0] h := by
  exact td_ireturn rfl dX10_cutTo_30 K
set_option maxRecDepth 20000 in
theorem rX10_item_0 {G : td_G} {d : Nat} {Post : td_P} {x1 x2 x3 x4 : Int32} {h : td_H} (K : td_J G d mX10_item Post 2 [(0, .ref 85), (1, .int x1), (2, .int x2), (3, .int x3), (4, .int x4)] [.int x2, .int x1] h) : td_J G d mX10_item Post 0 [(0, .ref 85), (1, .int x1), (2, .int x2), (3, .int x3), (4, .int x4)] [] h := by
  refine td_iload_n 1 dX10_item_0 rfl ?_
  refine td_iload_n 2 dX10_item_1 rfl ?_
  exact K
set_option maxRecDepth 20000 in
theorem rX10_item_5 {G : td_G} {d : Nat} {Post : td_P} {x1 x2 x3 x4 s0 : Int32} {h : td_H} (K : (¬ s0 = 0 → td_J G d mX10_item Post 15 [(0, .ref 85), (1, .int x1), (2, .int x2), (3, .int x3), (4, .int x4)] [.int 1, .int x3, .int x2, .int x1, .ref 85] h) ∧ (s0 = 0 → (Post (some (.int (-1))) h))) : td_J G d mX10_item Post 5 [(0, .ref 85), (1, .int x1), (2, .int x2), (3, .int x3), (4, .int x4)] [.int s0] h := by
  obtain ⟨Kt, Kf⟩ := K
  refine td_if_ne (tgt := 10) dX10_item_5 (by decide) (fun q => ?_) (fun q => ?_)
  · have K := Kt q
    refine td_aload_n 0 dX10_item_10 rfl ?_
    refine td_iload_n 1 dX10_item_11 rfl ?_
    refine td_iload_n 2 dX10_item_12 rfl ?_
    refine td_iload_n 3 dX10_item_13 rfl ?_
    refine td_iconst (v := 1) dX10_item_14 (by decide) ?_
    exact K
  · have K := Kf q
    refine td_iconst (v := (-1)) dX10_item_8 (by decide) ?_
    exact td_ireturn rfl dX10_item_9 K
set_option maxRecDepth 20000 in
theorem rX10_item_18 {G : td_G} {d : Nat} {Post : td_P} {x1 x2 x3 x4 s0 : Int32} {h : td_H} (K : (0 ≤ s0 → td_J G d mX10_item Post 41 [(0, .ref 85), (1, .int x1), (2, .int x2), (3, .int x3), (4, .int x4), (5, .int s0)] [.int x4, .int x2, .int ((16 * x1) + x3), .ref 106] h) ∧ (¬ 0 ≤ s0 → (Post (some (.int s0)) h))) : td_J G d mX10_item Post 18 [(0, .ref 85), (1, .int x1), (2, .int x2), (3, .int x3), (4, .int x4)] [.int s0] h := by
  refine td_istore (lv2 := [(0, .ref 85), (1, .int x1), (2, .int x2), (3, .int x3), (4, .int x4), (5, .int s0)]) dX10_item_18 (by decide) rfl ?_
  refine td_iload 5 dX10_item_20 rfl ?_
  obtain ⟨Kt, Kf⟩ := K
  refine td_if_ge (tgt := 28) dX10_item_22 (by decide) (fun q => ?_) (fun q => ?_)
  · have K := Kt q
    refine td_aload_n 0 dX10_item_28 rfl ?_
    refine gf_X10_70 rfl kp_85 dX10_item_29 ?_
    refine td_bipush (v := 16) dX10_item_32 (by decide) ?_
    refine td_iload_n 1 dX10_item_34 rfl ?_
    refine td_imul dX10_item_35 ?_
    refine td_iload_n 3 dX10_item_36 rfl ?_
    refine td_iadd dX10_item_37 ?_
    refine td_iload_n 2 dX10_item_38 rfl ?_
    refine td_iload 4 dX10_item_39 rfl ?_
    exact K
  · have K := Kf q
    refine td_iload 5 dX10_item_25 rfl ?_
    exact td_ireturn rfl dX10_item_27 K
set_option maxRecDepth 20000 in
theorem rX10_item_44 {G : td_G} {d : Nat} {Post : td_P} {a0 na0 : Nat} {x1 x2 x3 x4 x5 s1 s2 : Int32} {h : td_H} (ha0 : td_kd a0 = 100 + na0) (ga0 : na0 ≠ 899) (K : vp_in s1 na0 ∧ (Post (some (.int 1)) (hu h a0 (ix s1) s2))) : td_J G d mX10_item Post 44 [(0, .ref 85), (1, .int x1), (2, .int x2), (3, .int x3), (4, .int x4), (5, .int x5)] [.int s2, .int s1, .ref a0] h := by
  obtain ⟨e44, K⟩ := K
  refine td_iastc (j := (ix s1)) ha0 ga0 e44 rfl dX10_item_44 ?_
  refine td_iconst (v := 1) dX10_item_45 (by decide) ?_
  exact td_ireturn rfl dX10_item_46 K
set_option maxRecDepth 20000 in
theorem rX10_film_0 {G : td_G} {d : Nat} {Post : td_P} {x1 x2 x3 : Int32} {h : td_H} (K : td_J G d mX10_film Post 2 [(0, .ref 85), (1, .int x1), (2, .int x2), (3, .int x3)] [.int x2, .int x1] h) : td_J G d mX10_film Post 0 [(0, .ref 85), (1, .int x1), (2, .int x2), (3, .int x3)] [] h := by
  refine td_iload_n 1 dX10_film_0 rfl ?_
  refine td_iload_n 2 dX10_film_1 rfl ?_
  exact K
set_option maxRecDepth 20000 in
theorem rX10_film_5 {G : td_G} {d : Nat} {Post : td_P} {x1 x2 x3 s0 : Int32} {h : td_H} (K : (¬ s0 = 0 → td_J G d mX10_film Post 21 [(0, .ref 85), (1, .int x1), (2, .int x2), (3, .int x3)] [.int (h 86 9), .int x3, .int x2, .int x1, .ref 85] h) ∧ (s0 = 0 → (Post (some (.int (-1))) h))) : td_J G d mX10_film Post 5 [(0, .ref 85), (1, .int x1), (2, .int x2), (3, .int x3)] [.int s0] h := by
  obtain ⟨Kt, Kf⟩ := K
  refine td_if_ne (tgt := 10) dX10_film_5 (by decide) (fun q => ?_) (fun q => ?_)
  · have K := Kt q
    refine td_aload_n 0 dX10_film_10 rfl ?_
    refine td_iload_n 1 dX10_film_11 rfl ?_
    refine td_iload_n 2 dX10_film_12 rfl ?_
    refine td_iload_n 3 dX10_film_13 rfl ?_
    refine td_aload_n 0 dX10_film_14 rfl ?_
    refine gf_X10_7 rfl kp_85 dX10_film_15 ?_
    refine td_bipush (v := 9) dX10_film_18 (by decide) ?_
    refine td_ialdc (j := 9) kp_86 (by decide) (by unfold vp_in; decide) (by decide) dX10_film_20 ?_
    exact K
  · have K := Kf q
    refine td_iconst (v := (-1)) dX10_film_8 (by decide) ?_
    exact td_ireturn rfl dX10_film_9 K
set_option maxRecDepth 20000 in
theorem rX10_film_24 {G : td_G} {d : Nat} {Post : td_P} {x1 x2 x3 s0 : Int32} {h : td_H} (K : (0 ≤ s0 → td_J G d mX10_film Post 35 [(0, .ref 85), (1, .int x1), (2, .int x2), (3, .int x3), (4, .int s0)] [.ref 85] h) ∧ (¬ 0 ≤ s0 → (Post (some (.int s0)) h))) : td_J G d mX10_film Post 24 [(0, .ref 85), (1, .int x1), (2, .int x2), (3, .int x3)] [.int s0] h := by
  refine td_istore (lv2 := [(0, .ref 85), (1, .int x1), (2, .int x2), (3, .int x3), (4, .int s0)]) dX10_film_24 (by decide) rfl ?_
  refine td_iload 4 dX10_film_26 rfl ?_
  obtain ⟨Kt, Kf⟩ := K
  refine td_if_ge (tgt := 34) dX10_film_28 (by decide) (fun q => ?_) (fun q => ?_)
  · have K := Kt q
    refine td_aload_n 0 dX10_film_34 rfl ?_
    exact K
  · have K := Kf q
    refine td_iload 4 dX10_film_31 rfl ?_
    exact td_ireturn rfl dX10_film_33 K
set_option maxRecDepth 20000 in
theorem rX10_film_38 {G : td_G} {d : Nat} {Post : td_P} {x1 x2 x3 x4 : Int32} {h : td_H} (K : td_J G d mX10_film Post 39 [(0, .ref 85), (1, .int x1), (2, .int x2), (3, .int x3), (4, .int x4)] [.ref 85] h) : td_J G d mX10_film Post 38 [(0, .ref 85), (1, .int x1), (2, .int x2), (3, .int x3), (4, .int x4)] [] h := by
  refine td_aload_n 0 dX10_film_38 rfl ?_
  exact K
set_option maxRecDepth 20000 in
theorem rX10_film_42 {G : td_G} {d : Nat} {Post : td_P} {x1 x2 x3 x4 : Int32} {h : td_H} (K : td_J G d mX10_film Post 45 [(0, .ref 85), (1, .int x1), (2, .int x2), (3, .int x3), (4, .int x4), (5, .int 0)] [] h) : td_J G d mX10_film Post 42 [(0, .ref 85), (1, .int x1), (2, .int x2), (3, .int x3), (4, .int x4)] [] h := by
  refine td_iconst (v := 0) dX10_film_42 (by decide) ?_
  refine td_istore (lv2 := [(0, .ref 85), (1, .int x1), (2, .int x2), (3, .int x3), (4, .int x4), (5, .int 0)]) dX10_film_43 (by decide) rfl ?_
  exact K
set_option maxRecDepth 20000 in
theorem rX10_film_45 {G : td_G} {d : Nat} {Post : td_P} {x1 x2 x3 x4 x5 : Int32} {h : td_H} (K : ((h 86 9) ≤ x5 → (Post (some (.int (h 86 9))) h)) ∧ (¬ (h 86 9) ≤ x5 → (vp_in x5 12 ∧ ((0 ≤ (h 94 (ix x5)) → (vp_in x5 12 ∧ (td_J G d mX10_film Post 93 [(0, .ref 85), (1, .int x1), (2, .int x2), (3, .int x3), (4, .int x4), (5, .int x5)] [.int (h 94 (ix x5)), .int x2, .int (((16 * x1) + x3) + x5), .ref 106] h))) ∧ (¬ 0 ≤ (h 94 (ix x5)) → td_J G d mX10_film Post 93 [(0, .ref 85), (1, .int x1), (2, .int x2), (3, .int x3), (4, .int x4), (5, .int x5)] [.int 120, .int x2, .int (((16 * x1) + x3) + x5), .ref 106] h))))) : td_J G d mX10_film Post 45 [(0, .ref 85), (1, .int x1), (2, .int x2), (3, .int x3), (4, .int x4), (5, .int x5)] [] h := by
  refine td_iload 5 dX10_film_45 rfl ?_
  refine td_aload_n 0 dX10_film_47 rfl ?_
  refine gf_X10_7 rfl kp_85 dX10_film_48 ?_
  refine td_bipush (v := 9) dX10_film_51 (by decide) ?_
  refine td_ialdc (j := 9) kp_86 (by decide) (by unfold vp_in; decide) (by decide) dX10_film_53 ?_
  obtain ⟨Kt, Kf⟩ := K
  refine td_icmp_ge (tgt := 103) dX10_film_54 (by decide) (fun q => ?_) (fun q => ?_)
  · have K := Kt q
    refine td_aload_n 0 dX10_film_103 rfl ?_
    refine gf_X10_7 rfl kp_85 dX10_film_104 ?_
    refine td_bipush (v := 9) dX10_film_107 (by decide) ?_
    refine td_ialdc (j := 9) kp_86 (by decide) (by unfold vp_in; decide) (by decide) dX10_film_109 ?_
    exact td_ireturn rfl dX10_film_110 K
  · have K := Kf q
    refine td_aload_n 0 dX10_film_57 rfl ?_
    refine gf_X10_70 rfl kp_85 dX10_film_58 ?_
    refine td_bipush (v := 16) dX10_film_61 (by decide) ?_
    refine td_iload_n 1 dX10_film_63 rfl ?_
    refine td_imul dX10_film_64 ?_
    refine td_iload_n 3 dX10_film_65 rfl ?_
    refine td_iadd dX10_film_66 ?_
    refine td_iload 5 dX10_film_67 rfl ?_
    refine td_iadd dX10_film_69 ?_
    refine td_iload_n 2 dX10_film_70 rfl ?_
    refine td_aload_n 0 dX10_film_71 rfl ?_
    refine gf_X10_34 rfl kp_85 dX10_film_72 ?_
    refine td_iload 5 dX10_film_75 rfl ?_
    obtain ⟨e77, K⟩ := K
    refine td_ialdc (j := (ix x5)) kp_94 (by decide) e77 rfl dX10_film_77 ?_
    obtain ⟨Kt, Kf⟩ := K
    refine td_if_ge (tgt := 86) dX10_film_78 (by decide) (fun q => ?_) (fun q => ?_)
    · have K := Kt q
      refine td_aload_n 0 dX10_film_86 rfl ?_
      refine gf_X10_34 rfl kp_85 dX10_film_87 ?_
      refine td_iload 5 dX10_film_90 rfl ?_
      obtain ⟨e92, K⟩ := K
      refine td_ialdc (j := (ix x5)) kp_94 (by decide) e92 rfl dX10_film_92 ?_
      exact K
    · have K := Kf q
      refine td_bipush (v := 120) dX10_film_81 (by decide) ?_
      refine td_goto (tgt := 93) dX10_film_83 (by decide) ?_
      exact K
set_option maxRecDepth 20000 in
theorem rX10_film_96 {G : td_G} {d : Nat} {Post : td_P} {a0 na0 : Nat} {x1 x2 x3 x4 x5 s1 s2 : Int32} {h : td_H} (ha0 : td_kd a0 = 100 + na0) (ga0 : na0 ≠ 899) (K : vp_in s1 na0 ∧ (td_J G d mX10_film Post 45 [(0, .ref 85), (1, .int x1), (2, .int x2), (3, .int x3), (4, .int x4), (5, .int (x5 + 1))] [] (hu h a0 (ix s1) s2))) : td_J G d mX10_film Post 96 [(0, .ref 85), (1, .int x1), (2, .int x2), (3, .int x3), (4, .int x4), (5, .int x5)] [.int s2, .int s1, .ref a0] h := by
  obtain ⟨e96, K⟩ := K
  refine td_iastc (j := (ix s1)) ha0 ga0 e96 rfl dX10_film_96 ?_
  refine td_iinc 5 (v := x5 + 1) (lv2 := [(0, .ref 85), (1, .int x1), (2, .int x2), (3, .int x3), (4, .int x4), (5, .int (x5 + 1))]) dX10_film_97 rfl (congrArg (x5 + ·) (by decide)) (by decide) rfl ?_
  refine td_goto (tgt := 45) dX10_film_100 (by decide) ?_
  exact K
