/-! ===== the model: orders ===== -/
set_option maxRecDepth 20000 in
set_option maxHeartbeats 4000000 in
theorem gX10_swap_0 {G : td_G} {d : Nat} {Post : td_P} {x1 x2 : Int32} {h : td_H} (K : vp_in x1 6 ∧ (vp_in x2 6 ∧ (Post none (hu (hu h 101 (ix x1) (h 101 (ix x2))) 101 (ix x2) (h 101 (ix x1)))))) : td_J G d mX10_swap Post 0 [(0, .ref 85), (1, .int x1), (2, .int x2)] [] h := by
  refine td_aload_n 0 dX10_swap_0 rfl ?_
  refine gf_X10_55 rfl kp_85 dX10_swap_1 ?_
  refine td_iload_n 1 dX10_swap_4 rfl ?_
  obtain ⟨e5, K⟩ := K
  refine td_ialdc (j := (ix x1)) kp_101 (by decide) e5 rfl dX10_swap_5 ?_
  refine td_istore_n (lv2 := [(0, .ref 85), (1, .int x1), (2, .int x2), (3, .int (h 101 (ix x1)))]) dX10_swap_6 (by decide) rfl ?_
  refine td_aload_n 0 dX10_swap_7 rfl ?_
  refine gf_X10_55 rfl kp_85 dX10_swap_8 ?_
  refine td_iload_n 1 dX10_swap_11 rfl ?_
  refine td_aload_n 0 dX10_swap_12 rfl ?_
  refine gf_X10_55 rfl kp_85 dX10_swap_13 ?_
  refine td_iload_n 2 dX10_swap_16 rfl ?_
  obtain ⟨e17, K⟩ := K
  refine td_ialdc (j := (ix x2)) kp_101 (by decide) e17 rfl dX10_swap_17 ?_
  refine td_iastc (j := (ix x1)) kp_101 (by decide) e5 rfl dX10_swap_18 ?_
  refine td_aload_n 0 dX10_swap_19 rfl ?_
  refine gf_X10_55 rfl kp_85 dX10_swap_20 ?_
  refine td_iload_n 2 dX10_swap_23 rfl ?_
  refine td_iload_n 3 dX10_swap_24 rfl ?_
  refine td_iastc (j := (ix x2)) kp_101 (by decide) e17 rfl dX10_swap_25 ?_
  exact td_return rfl dX10_swap_26 K
def exM (h : td_H) (a b : Nat) : td_H := hu (hu h 101 a (h 101 b)) 101 b (h 101 a)
theorem c_swap {G : td_G} {d : Nat} {h : td_H} (x1 x2 : Int32) (h1 : vp_in x1 6) (h2 : vp_in x2 6) : td_C G d mX10_swap [.ref 85, .int x1, .int x2] h (eV (exM h (ix x1) (ix x2))) := td_entry rfl (Nat.le_of_ble_eq_true rfl) rfl (gX10_swap_0 ⟨h1, h2, rfl, rfl⟩)
set_option maxRecDepth 20000 in
set_option maxHeartbeats 4000000 in
theorem gX10_nextRow_0 {G : td_G} {d : Nat} {Post : td_P} {x1 : Int32} {h : td_H} (K : td_J G (d + 1) mX10_nextRow Post 4 [(0, .ref 85), (1, .int x1), (2, .int (x1 - 2))] [] h) : td_J G (d + 1) mX10_nextRow Post 0 [(0, .ref 85), (1, .int x1)] [] h := by
  refine td_iload_n 1 dX10_nextRow_0 rfl ?_
  refine td_iconst (v := 2) dX10_nextRow_1 (by decide) ?_
  refine td_isub dX10_nextRow_2 ?_
  refine td_istore_n (lv2 := [(0, .ref 85), (1, .int x1), (2, .int (x1 - 2))]) dX10_nextRow_3 (by decide) rfl ?_
  exact K
set_option maxRecDepth 20000 in
set_option maxHeartbeats 4000000 in
theorem gX10_nextRow_4 {G : td_G} {d : Nat} {Post : td_P} {x1 x2 : Int32} {h : td_H} (K : (x2 < 0 → ((0 ≤ x2 → td_J G (d + 1) mX10_nextRow Post 41 [(0, .ref 85), (1, .int x1), (2, .int x2), (3, .int (x1 - 1))] [] h) ∧ (¬ 0 ≤ x2 → (Post (some (.int 0)) h)))) ∧ (¬ x2 < 0 → (vp_in x2 6 ∧ (vp_in (x2 + 1) 6 ∧ (((h 101 (ix x2)) ≤ (h 101 (ix (x2 + 1))) → ((0 ≤ x2 → td_J G (d + 1) mX10_nextRow Post 41 [(0, .ref 85), (1, .int x1), (2, .int x2), (3, .int (x1 - 1))] [] h) ∧ (¬ 0 ≤ x2 → (Post (some (.int 0)) h)))) ∧ (¬ (h 101 (ix x2)) ≤ (h 101 (ix (x2 + 1))) → td_J G (d + 1) mX10_nextRow Post 4 [(0, .ref 85), (1, .int x1), (2, .int (x2 + (-1)))] [] h)))))) : td_J G (d + 1) mX10_nextRow Post 4 [(0, .ref 85), (1, .int x1), (2, .int x2)] [] h := by
  refine td_iload_n 2 dX10_nextRow_4 rfl ?_
  obtain ⟨Kt, Kf⟩ := K
  refine td_if_lt (tgt := 31) dX10_nextRow_5 (by decide) (fun q5 => ?_) (fun q5 => ?_)
  · have K := Kt q5
    refine td_iload_n 2 dX10_nextRow_31 rfl ?_
    obtain ⟨Kt, Kf⟩ := K
    refine td_if_ge (tgt := 37) dX10_nextRow_32 (by decide) (fun q32 => ?_) (fun q32 => ?_)
    · have K := Kt q32
      refine td_iload_n 1 dX10_nextRow_37 rfl ?_
      refine td_iconst (v := 1) dX10_nextRow_38 (by decide) ?_
      refine td_isub dX10_nextRow_39 ?_
      refine td_istore_n (lv2 := [(0, .ref 85), (1, .int x1), (2, .int x2), (3, .int (x1 - 1))]) dX10_nextRow_40 (by decide) rfl ?_
      exact K
    · have K := Kf q32
      refine td_iconst (v := 0) dX10_nextRow_35 (by decide) ?_
      exact td_zreturn rfl rfl dX10_nextRow_36 K
  · have K := Kf q5
    refine td_aload_n 0 dX10_nextRow_8 rfl ?_
    refine gf_X10_55 rfl kp_85 dX10_nextRow_9 ?_
    refine td_iload_n 2 dX10_nextRow_12 rfl ?_
    obtain ⟨e13, K⟩ := K
    refine td_ialdc (j := (ix x2)) kp_101 (by decide) e13 rfl dX10_nextRow_13 ?_
    refine td_aload_n 0 dX10_nextRow_14 rfl ?_
    refine gf_X10_55 rfl kp_85 dX10_nextRow_15 ?_
    refine td_iload_n 2 dX10_nextRow_18 rfl ?_
    refine td_iconst (v := 1) dX10_nextRow_19 (by decide) ?_
    refine td_iadd dX10_nextRow_20 ?_
    obtain ⟨e21, K⟩ := K
    refine td_ialdc (j := (ix (x2 + 1))) kp_101 (by decide) e21 rfl dX10_nextRow_21 ?_
    obtain ⟨Kt, Kf⟩ := K
    refine td_icmp_le (tgt := 31) dX10_nextRow_22 (by decide) (fun q22 => ?_) (fun q22 => ?_)
    · have K := Kt q22
      refine td_iload_n 2 dX10_nextRow_31 rfl ?_
      obtain ⟨Kt, Kf⟩ := K
      refine td_if_ge (tgt := 37) dX10_nextRow_32 (by decide) (fun q32 => ?_) (fun q32 => ?_)
      · have K := Kt q32
        refine td_iload_n 1 dX10_nextRow_37 rfl ?_
        refine td_iconst (v := 1) dX10_nextRow_38 (by decide) ?_
        refine td_isub dX10_nextRow_39 ?_
        refine td_istore_n (lv2 := [(0, .ref 85), (1, .int x1), (2, .int x2), (3, .int (x1 - 1))]) dX10_nextRow_40 (by decide) rfl ?_
        exact K
      · have K := Kf q32
        refine td_iconst (v := 0) dX10_nextRow_35 (by decide) ?_
        exact td_zreturn rfl rfl dX10_nextRow_36 K
    · have K := Kf q22
      refine td_iinc 2 (v := x2 + (-1)) (lv2 := [(0, .ref 85), (1, .int x1), (2, .int (x2 + (-1)))]) dX10_nextRow_25 rfl (congrArg (x2 + ·) (by decide)) (by decide) rfl ?_
      refine td_goto (tgt := 4) dX10_nextRow_28 (by decide) ?_
      exact K
set_option maxRecDepth 20000 in
set_option maxHeartbeats 4000000 in
theorem gX10_nextRow_41 {G : td_G} {d : Nat} {Post : td_P} {x1 x2 x3 : Int32} {h : td_H} (K : vp_in x3 6 ∧ (vp_in x2 6 ∧ (((h 101 (ix x2)) ≤ (h 101 (ix x3)) → td_J G (d + 1) mX10_nextRow Post 78 [(0, .ref 85), (1, .int x1), (2, .int x2), (3, .int x3), (4, .int (x2 + 1)), (5, .int (x1 - 1))] [] (exM h (ix x2) (ix x3))) ∧ (¬ (h 101 (ix x2)) ≤ (h 101 (ix x3)) → td_J G (d + 1) mX10_nextRow Post 41 [(0, .ref 85), (1, .int x1), (2, .int x2), (3, .int (x3 + (-1)))] [] h)))) : td_J G (d + 1) mX10_nextRow Post 41 [(0, .ref 85), (1, .int x1), (2, .int x2), (3, .int x3)] [] h := by
  refine td_aload_n 0 dX10_nextRow_41 rfl ?_
  refine gf_X10_55 rfl kp_85 dX10_nextRow_42 ?_
  refine td_iload_n 3 dX10_nextRow_45 rfl ?_
  obtain ⟨e46, K⟩ := K
  refine td_ialdc (j := (ix x3)) kp_101 (by decide) e46 rfl dX10_nextRow_46 ?_
  refine td_aload_n 0 dX10_nextRow_47 rfl ?_
  refine gf_X10_55 rfl kp_85 dX10_nextRow_48 ?_
  refine td_iload_n 2 dX10_nextRow_51 rfl ?_
  obtain ⟨e52, K⟩ := K
  refine td_ialdc (j := (ix x2)) kp_101 (by decide) e52 rfl dX10_nextRow_52 ?_
  obtain ⟨Kt, Kf⟩ := K
  refine td_icmp_ge (tgt := 62) dX10_nextRow_53 (by decide) (fun q53 => ?_) (fun q53 => ?_)
  · have K := Kt q53
    refine td_aload_n 0 dX10_nextRow_62 rfl ?_
    refine td_iload_n 2 dX10_nextRow_63 rfl ?_
    refine td_iload_n 3 dX10_nextRow_64 rfl ?_
    refine cl_X10_242 rfl kp_85 dX10_nextRow_65 (Nat.le_of_ble_eq_true rfl) (c_swap x2 x3 e52 e46) (eV_k ?_)
    refine td_eqs (st2 := []) rfl ?_
    refine td_iload_n 2 dX10_nextRow_68 rfl ?_
    refine td_iconst (v := 1) dX10_nextRow_69 (by decide) ?_
    refine td_iadd dX10_nextRow_70 ?_
    refine td_istore (lv2 := [(0, .ref 85), (1, .int x1), (2, .int x2), (3, .int x3), (4, .int (x2 + 1))]) dX10_nextRow_71 (by decide) rfl ?_
    refine td_iload_n 1 dX10_nextRow_73 rfl ?_
    refine td_iconst (v := 1) dX10_nextRow_74 (by decide) ?_
    refine td_isub dX10_nextRow_75 ?_
    refine td_istore (lv2 := [(0, .ref 85), (1, .int x1), (2, .int x2), (3, .int x3), (4, .int (x2 + 1)), (5, .int (x1 - 1))]) dX10_nextRow_76 (by decide) rfl ?_
    exact K
  · have K := Kf q53
    refine td_iinc 3 (v := x3 + (-1)) (lv2 := [(0, .ref 85), (1, .int x1), (2, .int x2), (3, .int (x3 + (-1)))]) dX10_nextRow_56 rfl (congrArg (x3 + ·) (by decide)) (by decide) rfl ?_
    refine td_goto (tgt := 41) dX10_nextRow_59 (by decide) ?_
    exact K
set_option maxRecDepth 20000 in
set_option maxHeartbeats 4000000 in
theorem gX10_nextRow_78 {G : td_G} {d : Nat} {Post : td_P} {x1 x2 x3 x4 x5 : Int32} {h : td_H} (K : (x5 ≤ x4 → (Post (some (.int 1)) h)) ∧ (¬ x5 ≤ x4 → (vp_in x4 6 ∧ vp_in x5 6 ∧ (td_J G (d + 1) mX10_nextRow Post 78 [(0, .ref 85), (1, .int x1), (2, .int x2), (3, .int x3), (4, .int (x4 + 1)), (5, .int (x5 + (-1)))] [] (exM h (ix x4) (ix x5)))))) : td_J G (d + 1) mX10_nextRow Post 78 [(0, .ref 85), (1, .int x1), (2, .int x2), (3, .int x3), (4, .int x4), (5, .int x5)] [] h := by
  refine td_iload 4 dX10_nextRow_78 rfl ?_
  refine td_iload 5 dX10_nextRow_80 rfl ?_
  obtain ⟨Kt, Kf⟩ := K
  refine td_icmp_ge (tgt := 102) dX10_nextRow_82 (by decide) (fun q82 => ?_) (fun q82 => ?_)
  · have K := Kt q82
    refine td_iconst (v := 1) dX10_nextRow_102 (by decide) ?_
    exact td_zreturn rfl rfl dX10_nextRow_103 K
  · have K := Kf q82
    refine td_aload_n 0 dX10_nextRow_85 rfl ?_
    refine td_iload 4 dX10_nextRow_86 rfl ?_
    refine td_iload 5 dX10_nextRow_88 rfl ?_
    obtain ⟨e90_0, K⟩ := K
    obtain ⟨e90_1, K⟩ := K
    refine cl_X10_242 rfl kp_85 dX10_nextRow_90 (Nat.le_of_ble_eq_true rfl) (c_swap x4 x5 e90_0 e90_1) (eV_k ?_)
    refine td_eqs (st2 := []) rfl ?_
    refine td_iinc 4 (v := x4 + 1) (lv2 := [(0, .ref 85), (1, .int x1), (2, .int x2), (3, .int x3), (4, .int (x4 + 1)), (5, .int x5)]) dX10_nextRow_93 rfl (congrArg (x4 + ·) (by decide)) (by decide) rfl ?_
    refine td_iinc 5 (v := x5 + (-1)) (lv2 := [(0, .ref 85), (1, .int x1), (2, .int x2), (3, .int x3), (4, .int (x4 + 1)), (5, .int (x5 + (-1)))]) dX10_nextRow_96 rfl (congrArg (x5 + ·) (by decide)) (by decide) rfl ?_
    refine td_goto (tgt := 78) dX10_nextRow_99 (by decide) ?_
    exact K
theorem exM_o (h : td_H) (a b x y : Nat) (n : x ≠ 101) : exM h a b x y = h x y := by unfold exM; rw [hu_app, if_neg (fun z => n z.1), hu_app, if_neg (fun z => n z.1)]
theorem exM_101 (h : td_H) (a b y : Nat) : exM h a b 101 y = if y = b then h 101 a else if y = a then h 101 b else h 101 y := by
  unfold exM
  rw [hu_app, hu_app]
  by_cases e : y = b
  · rw [if_pos ⟨rfl, e⟩, if_pos e]
  · rw [if_neg (fun z => e z.2), if_neg e]
    by_cases e2 : y = a
    · rw [if_pos ⟨rfl, e2⟩, if_pos e2]
    · rw [if_neg (fun z => e2 z.2), if_neg e2]
theorem c_nextRow {G : td_G} {d : Nat} {h : td_H} (K : Nat) (r : Nat → Nat) (x : Int32) (hx : x = nI K) (h1 : 1 ≤ K) (h6 : K ≤ 6) (hr : ∀ a, a < K → h 101 a = nI (r a) ∧ r a < 12) : td_C G (d + 1) mX10_nextRow [.ref 85, .int x] h (fun res h' => res = some (.int (b2i (flF r (K - 1) ≠ 0))) ∧ (∀ a b, a ≠ 101 → h' a b = h a b) ∧ (flF r (K - 1) ≠ 0 → ∀ a, a < K → h' 101 a = nI (nxF K r a))) := by
  subst hx
  refine td_entry rfl (Nat.le_of_ble_eq_true rfl) rfl (gX10_nextRow_0 ?_)
  -- the turning
  have turn : ∀ f J, flF r (K - 1) = f + 1 → f < K → J < K → swF r (r f) (K - 1) = J → ∀ m (H : td_H) x1 x2, ∀ i j, i + j = K + f → f + 1 ≤ i → j < K → j + 1 - i ≤ m → (∀ a b, a ≠ 101 → H a b = h a b) → (∀ b, b < K → H 101 b = nI (rvM K f (swp r f J) i j b)) → td_J G (d + 1) mX10_nextRow (fun res h' => res = some (.int (b2i (flF r (K - 1) ≠ 0))) ∧ (∀ a b, a ≠ 101 → h' a b = h a b) ∧ (flF r (K - 1) ≠ 0 → ∀ a, a < K → h' 101 a = nI (nxF K r a))) 78 [(0, .ref 85), (1, .int (nI K)), (2, .int x1), (3, .int x2), (4, .int (nI i)), (5, .int (nI j))] [] H := by
    intro f J hf hfK hJ hs m
    induction m with
    | zero =>
      intro H x1 x2 i j hij hi hj hm hF hv
      refine gX10_nextRow_78 ⟨fun _ => ⟨?_, hF, fun _ b hb => ?_⟩, fun y => absurd (nle_of y) (by omega)⟩
      · rw [show b2i (flF r (K - 1) ≠ 0) = 1 from b2i_1.mpr (by omega)]
      · rw [hv b hb]
        congr 1
        unfold rvM nxF
        rw [hf, show f + 1 - 1 = f from rfl, hs]
        by_cases z : b ≤ f
        · rw [if_pos z, if_pos z]
        · rw [if_neg z, if_neg z, if_pos (by omega)]
    | succ m ih =>
      intro H x1 x2 i j hij hi hj hm hF hv
      by_cases y : j ≤ i
      · refine gX10_nextRow_78 ⟨fun _ => ⟨?_, hF, fun _ b hb => ?_⟩, fun z => absurd (nle_of z) (by omega)⟩
        · rw [show b2i (flF r (K - 1) ≠ 0) = 1 from b2i_1.mpr (by omega)]
        · rw [hv b hb]
          congr 1
          unfold rvM nxF
          rw [hf, show f + 1 - 1 = f from rfl, hs]
          by_cases z : b ≤ f
          · rw [if_pos z, if_pos z]
          · rw [if_neg z, if_neg z]
            by_cases w : b < i ∨ j < b
            · rw [if_pos w]
            · rw [if_neg w]
              congr 1
              omega
      · refine gX10_nextRow_78 ⟨fun z => absurd (le_of z) (by omega), fun _ => ⟨vp_in_nI (by omega) (by decide), vp_in_nI (by omega) (by decide), ?_⟩⟩
        rw [ixn (i := i) (by omega), ixn (i := j) (by omega)]
        refine td_to (ih (exM H i j) x1 x2 (i + 1) (j - 1) (by omega) (by omega) (by omega) (by omega) (fun a b n => ?_) (fun b hb => ?_)) ?_ rfl rfl
        · rw [exM_o _ _ _ _ _ n]; exact hF a b n
        · rw [exM_101, hv i (by omega), hv j hj, hv b hb]
          unfold rvM
          by_cases c1 : b = j
          · rw [if_pos c1, if_neg (by omega), if_neg (by omega), if_neg (by omega), if_pos (by omega)]
            congr 2
            omega
          · rw [if_neg c1]
            by_cases c2 : b = i
            · rw [if_pos c2, if_neg (by omega), if_neg (by omega), if_neg (by omega), if_pos (by omega)]
              congr 2
              omega
            · rw [if_neg c2]
              by_cases z : b ≤ f
              · rw [if_pos z, if_pos z]
              · rw [if_neg z, if_neg z]
                by_cases w : b < i ∨ j < b
                · rw [if_pos w, if_pos (by omega)]
                · rw [if_neg w, if_neg (by omega)]
        · rw [nI_1, show nI j + -1 = nI (j - 1) from (Int32.sub_eq_add_neg _ _).symm.trans (pk_sub (a := j) (b := 1) (by omega))]
  -- with whom to change
  have swl : ∀ f, flF r (K - 1) = f + 1 → f < K → ∀ j, f ≤ j → j < K → swF r (r f) j = swF r (r f) (K - 1) → td_J G (d + 1) mX10_nextRow (fun res h' => res = some (.int (b2i (flF r (K - 1) ≠ 0))) ∧ (∀ a b, a ≠ 101 → h' a b = h a b) ∧ (flF r (K - 1) ≠ 0 → ∀ a, a < K → h' 101 a = nI (nxF K r a))) 41 [(0, .ref 85), (1, .int (nI K)), (2, .int (nI f)), (3, .int (nI j))] [] h := by
    intro f hf hfK
    have flt : f + 1 < K + 1 := by omega
    have fin : ∀ j, f ≤ j → j < K → swF r (r f) (K - 1) = j → td_J G (d + 1) mX10_nextRow (fun res h' => res = some (.int (b2i (flF r (K - 1) ≠ 0))) ∧ (∀ a b, a ≠ 101 → h' a b = h a b) ∧ (flF r (K - 1) ≠ 0 → ∀ a, a < K → h' 101 a = nI (nxF K r a))) 78 [(0, .ref 85), (1, .int (nI K)), (2, .int (nI f)), (3, .int (nI j)), (4, .int (nI f + 1)), (5, .int (nI K - 1))] [] (exM h (ix (nI f)) (ix (nI j))) := by
      intro j h4 h5 hs
      have fl := flF_le r (K - 1)
      rw [ixn (by omega), ixn (by omega), nI_1, show nI K - 1 = nI (K - 1) from pk_sub (a := K) (b := 1) (by omega)]
      refine turn f j hf hfK h5 hs K (exM h f j) _ _ (f + 1) (K - 1) (by omega) (by omega) (by omega) (by omega) (fun a b n => exM_o _ _ _ _ _ n) (fun b hb => ?_)
      rw [exM_101, (hr f hfK).1, (hr j h5).1, (hr b hb).1]
      have er : rvM K f (swp r f j) (f + 1) (K - 1) b = swp r f j b := by
        unfold rvM
        by_cases z : b ≤ f
        · rw [if_pos z]
        · rw [if_neg z, if_neg (by omega)]
      rw [er]
      unfold swp
      by_cases c2 : b = j
      · rw [if_pos c2]
        by_cases c1 : b = f
        · rw [if_pos c1, ← c2, c1]
        · rw [if_neg c1, if_pos c2]
      · rw [if_neg c2]
        by_cases c1 : b = f
        · rw [if_pos c1, if_pos c1]
        · rw [if_neg c1, if_neg c1, if_neg c2]
    intro j
    induction j with
    | zero =>
      intro h4 h5 hs
      have : f = 0 := by omega
      subst this
      refine gX10_nextRow_41 ⟨vp_in_nI (by omega) (by decide), vp_in_nI (by omega) (by decide), fun _ => fin 0 h4 h5 hs.symm, fun y => absurd ((fa_le _ _).mpr (Int.le_refl _)) y⟩
    | succ j ih =>
      intro h4 h5 hs
      have rj := (hr (j + 1) h5).2
      have rf := (hr f hfK).2
      have v1 : vp_in (nI f) 6 := vp_in_nI (by omega) (by decide)
      have v2 : vp_in (nI (j + 1)) 6 := vp_in_nI (by omega) (by decide)
      rw [show swF r (r f) (j + 1) = if r (j + 1) < r f then swF r (r f) j else j + 1 from rfl] at hs
      refine gX10_nextRow_41 ⟨v2, v1, fun z => ?_, fun z => ?_⟩
      · rw [ixn (i := f) (by omega), ixn (i := j + 1) (by omega), (hr f hfK).1, (hr (j + 1) h5).1] at z
        have z2 := le_of z
        rw [if_neg (by omega)] at hs
        exact fin (j + 1) h4 h5 hs.symm
      · rw [ixn (i := f) (by omega), ixn (i := j + 1) (by omega), (hr f hfK).1, (hr (j + 1) h5).1] at z
        have z2 := nle_of z
        rw [if_pos z2] at hs
        have hfj : f ≤ j := by
          rcases Nat.lt_or_ge j f with w | w
          · have : f = j + 1 := by omega
            rw [this] at z2; omega
          · exact w
        exact td_to (ih hfj (by omega) hs) (by rw [show nI (j + 1) + -1 = nI j from (Int32.sub_eq_add_neg _ _).symm.trans (pk_sub (a := j + 1) (b := 1) (by omega))]) rfl rfl
  -- where it falls
  have fall : ∀ k, k ≤ K - 1 → flF r k = flF r (K - 1) → td_J G (d + 1) mX10_nextRow (fun res h' => res = some (.int (b2i (flF r (K - 1) ≠ 0))) ∧ (∀ a b, a ≠ 101 → h' a b = h a b) ∧ (flF r (K - 1) ≠ 0 → ∀ a, a < K → h' 101 a = nI (nxF K r a))) 4 [(0, .ref 85), (1, .int (nI K)), (2, .int (nI k - 1))] [] h := by
    intro k
    induction k with
    | zero =>
      intro hk hs
      have hs : flF r (K - 1) = 0 := hs.symm
      exact gX10_nextRow_4 ⟨fun _ => ⟨fun y => absurd y (by decide), fun _ => ⟨by rw [show b2i (flF r (K - 1) ≠ 0) = 0 from b2i_0.mpr (by omega)], fun _ _ _ => rfl, fun y => absurd hs y⟩⟩, fun y => absurd (by decide) y⟩
    | succ k ih =>
      intro hk hs
      have e1 : nI (k + 1) - 1 = nI k := pk_sub (a := k + 1) (b := 1) (by omega)
      rw [show flF r (k + 1) = if r (k + 1) < r k then flF r k else k + 1 from rfl] at hs
      have ra := (hr k (by omega)).2
      have rb := (hr (k + 1) (by omega)).2
      rw [e1]
      refine gX10_nextRow_4 ⟨fun y => absurd y (nI_pos (by omega)), fun _ => ?_⟩
      rw [nI_1, ixn (i := k) (by omega), ixn (i := k + 1) (by omega), (hr k (by omega)).1, (hr (k + 1) (by omega)).1, show nI K - 1 = nI (K - 1) from pk_sub (a := K) (b := 1) (by omega)]
      refine ⟨vp_in_nI (by omega) (by decide), vp_in_nI (by omega) (by decide), fun y => ⟨fun _ => ?_, fun z => absurd ((nI_leI (a := 0) (by decide) (by omega)).mpr (Nat.zero_le _)) z⟩, fun y => ?_⟩
      · have y2 := le_of y
        rw [if_neg (by omega)] at hs
        exact swl k hs.symm (by omega) (K - 1) (by omega) (by omega) rfl
      · have y2 := nle_of y
        rw [if_pos y2] at hs
        exact td_to (ih (by omega) hs) (by rw [show nI k + -1 = nI k - 1 from (Int32.sub_eq_add_neg _ _).symm]) rfl rfl
  refine td_to (fall (K - 1) (Nat.le_refl _) rfl) ?_ rfl rfl
  rw [show nI K - 2 = nI (K - 1) - 1 from by
    have e : nI K - 1 = nI (K - 1) := pk_sub (a := K) (b := 1) (by omega)
    rw [← e]
    rcases (by omega : K = 1 ∨ K = 2 ∨ K = 3 ∨ K = 4 ∨ K = 5 ∨ K = 6) with z | z | z | z | z | z <;> subst z <;> decide]
