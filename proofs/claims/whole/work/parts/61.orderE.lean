/-! Door: the next row -/
set_option maxRecDepth 20000 in
set_option maxHeartbeats 4000000 in
theorem gX4_next_0 {G : td_G} {d : Nat} {Post : td_P} {h : td_H} (K : td_J G (d + 1) mX4_next Post 7 [(0, .ref 69), (1, .int ((h 69 3) - 2))] [] h) : td_J G (d + 1) mX4_next Post 0 [(0, .ref 69)] [] h := by
  refine td_aload_n 0 dX4_next_0 rfl ?_
  refine gf_X4_34 rfl kp_69 dX4_next_1 ?_
  refine td_iconst (v := 2) dX4_next_4 (by decide) ?_
  refine td_isub dX4_next_5 ?_
  refine td_istore_n (lv2 := [(0, .ref 69), (1, .int ((h 69 3) - 2))]) dX4_next_6 (by decide) rfl ?_
  exact K
set_option maxRecDepth 20000 in
set_option maxHeartbeats 4000000 in
theorem gX4_next_7 {G : td_G} {d : Nat} {Post : td_P} {x1 : Int32} {h : td_H} (K : (x1 < 0 → ((0 ≤ x1 → td_J G (d + 1) mX4_next Post 47 [(0, .ref 69), (1, .int x1), (2, .int ((h 69 3) - 1))] [] h) ∧ (¬ 0 ≤ x1 → (Post (some (.int 0)) h)))) ∧ (¬ x1 < 0 → (vp_in x1 6 ∧ (vp_in (x1 + 1) 6 ∧ (((h 70 (ix x1)) ≤ (h 70 (ix (x1 + 1))) → ((0 ≤ x1 → td_J G (d + 1) mX4_next Post 47 [(0, .ref 69), (1, .int x1), (2, .int ((h 69 3) - 1))] [] h) ∧ (¬ 0 ≤ x1 → (Post (some (.int 0)) h)))) ∧ (¬ (h 70 (ix x1)) ≤ (h 70 (ix (x1 + 1))) → td_J G (d + 1) mX4_next Post 7 [(0, .ref 69), (1, .int (x1 + (-1)))] [] h)))))) : td_J G (d + 1) mX4_next Post 7 [(0, .ref 69), (1, .int x1)] [] h := by
  refine td_iload_n 1 dX4_next_7 rfl ?_
  obtain ⟨Kt, Kf⟩ := K
  refine td_if_lt (tgt := 34) dX4_next_8 (by decide) (fun q8 => ?_) (fun q8 => ?_)
  · have K := Kt q8
    refine td_iload_n 1 dX4_next_34 rfl ?_
    obtain ⟨Kt, Kf⟩ := K
    refine td_if_ge (tgt := 40) dX4_next_35 (by decide) (fun q35 => ?_) (fun q35 => ?_)
    · have K := Kt q35
      refine td_aload_n 0 dX4_next_40 rfl ?_
      refine gf_X4_34 rfl kp_69 dX4_next_41 ?_
      refine td_iconst (v := 1) dX4_next_44 (by decide) ?_
      refine td_isub dX4_next_45 ?_
      refine td_istore_n (lv2 := [(0, .ref 69), (1, .int x1), (2, .int ((h 69 3) - 1))]) dX4_next_46 (by decide) rfl ?_
      exact K
    · have K := Kf q35
      refine td_iconst (v := 0) dX4_next_38 (by decide) ?_
      exact td_zreturn rfl rfl dX4_next_39 K
  · have K := Kf q8
    refine td_aload_n 0 dX4_next_11 rfl ?_
    refine gf_X4_9 rfl kp_69 dX4_next_12 ?_
    refine td_iload_n 1 dX4_next_15 rfl ?_
    obtain ⟨e16, K⟩ := K
    refine td_ialdc (j := (ix x1)) kp_70 (by decide) e16 rfl dX4_next_16 ?_
    refine td_aload_n 0 dX4_next_17 rfl ?_
    refine gf_X4_9 rfl kp_69 dX4_next_18 ?_
    refine td_iload_n 1 dX4_next_21 rfl ?_
    refine td_iconst (v := 1) dX4_next_22 (by decide) ?_
    refine td_iadd dX4_next_23 ?_
    obtain ⟨e24, K⟩ := K
    refine td_ialdc (j := (ix (x1 + 1))) kp_70 (by decide) e24 rfl dX4_next_24 ?_
    obtain ⟨Kt, Kf⟩ := K
    refine td_icmp_le (tgt := 34) dX4_next_25 (by decide) (fun q25 => ?_) (fun q25 => ?_)
    · have K := Kt q25
      refine td_iload_n 1 dX4_next_34 rfl ?_
      obtain ⟨Kt, Kf⟩ := K
      refine td_if_ge (tgt := 40) dX4_next_35 (by decide) (fun q35 => ?_) (fun q35 => ?_)
      · have K := Kt q35
        refine td_aload_n 0 dX4_next_40 rfl ?_
        refine gf_X4_34 rfl kp_69 dX4_next_41 ?_
        refine td_iconst (v := 1) dX4_next_44 (by decide) ?_
        refine td_isub dX4_next_45 ?_
        refine td_istore_n (lv2 := [(0, .ref 69), (1, .int x1), (2, .int ((h 69 3) - 1))]) dX4_next_46 (by decide) rfl ?_
        exact K
      · have K := Kf q35
        refine td_iconst (v := 0) dX4_next_38 (by decide) ?_
        exact td_zreturn rfl rfl dX4_next_39 K
    · have K := Kf q25
      refine td_iinc 1 (v := x1 + (-1)) (lv2 := [(0, .ref 69), (1, .int (x1 + (-1)))]) dX4_next_28 rfl (congrArg (x1 + ·) (by decide)) (by decide) rfl ?_
      refine td_goto (tgt := 7) dX4_next_31 (by decide) ?_
      exact K
set_option maxRecDepth 20000 in
set_option maxHeartbeats 4000000 in
theorem gX4_next_47 {G : td_G} {d : Nat} {Post : td_P} {x1 x2 : Int32} {h : td_H} (K : (x2 ≤ x1 → (vp_in x1 6 ∧ vp_in x2 6 ∧ (td_J G (d + 1) mX4_next Post 91 [(0, .ref 69), (1, .int x1), (2, .int x2), (3, .int (x1 + 1)), (4, .int (((exH h (ix x1) (ix x2)) 69 3) - 1))] [] (exH h (ix x1) (ix x2))))) ∧ (¬ x2 ≤ x1 → (vp_in x2 6 ∧ (vp_in x1 6 ∧ (((h 70 (ix x1)) ≤ (h 70 (ix x2)) → td_J G (d + 1) mX4_next Post 91 [(0, .ref 69), (1, .int x1), (2, .int x2), (3, .int (x1 + 1)), (4, .int (((exH h (ix x1) (ix x2)) 69 3) - 1))] [] (exH h (ix x1) (ix x2))) ∧ (¬ (h 70 (ix x1)) ≤ (h 70 (ix x2)) → td_J G (d + 1) mX4_next Post 47 [(0, .ref 69), (1, .int x1), (2, .int (x2 + (-1)))] [] h)))))) : td_J G (d + 1) mX4_next Post 47 [(0, .ref 69), (1, .int x1), (2, .int x2)] [] h := by
  refine td_iload_n 2 dX4_next_47 rfl ?_
  refine td_iload_n 1 dX4_next_48 rfl ?_
  obtain ⟨Kt, Kf⟩ := K
  refine td_icmp_le (tgt := 73) dX4_next_49 (by decide) (fun q49 => ?_) (fun q49 => ?_)
  · have K := Kt q49
    refine td_aload_n 0 dX4_next_73 rfl ?_
    refine td_iload_n 1 dX4_next_74 rfl ?_
    refine td_iload_n 2 dX4_next_75 rfl ?_
    obtain ⟨e76_0, K⟩ := K
    obtain ⟨e76_1, K⟩ := K
    refine cl_X4_63 rfl kp_69 dX4_next_76 (Nat.le_of_ble_eq_true rfl) (c_O_exchange x1 x2 e76_0 e76_1) (eV_k ?_)
    refine td_eqs (st2 := []) rfl ?_
    refine td_iload_n 1 dX4_next_79 rfl ?_
    refine td_iconst (v := 1) dX4_next_80 (by decide) ?_
    refine td_iadd dX4_next_81 ?_
    refine td_istore_n (lv2 := [(0, .ref 69), (1, .int x1), (2, .int x2), (3, .int (x1 + 1))]) dX4_next_82 (by decide) rfl ?_
    refine td_aload_n 0 dX4_next_83 rfl ?_
    refine gf_X4_34 rfl kp_69 dX4_next_84 ?_
    refine td_iconst (v := 1) dX4_next_87 (by decide) ?_
    refine td_isub dX4_next_88 ?_
    refine td_istore (lv2 := [(0, .ref 69), (1, .int x1), (2, .int x2), (3, .int (x1 + 1)), (4, .int (((exH h (ix x1) (ix x2)) 69 3) - 1))]) dX4_next_89 (by decide) rfl ?_
    exact K
  · have K := Kf q49
    refine td_aload_n 0 dX4_next_52 rfl ?_
    refine gf_X4_9 rfl kp_69 dX4_next_53 ?_
    refine td_iload_n 2 dX4_next_56 rfl ?_
    obtain ⟨e57, K⟩ := K
    refine td_ialdc (j := (ix x2)) kp_70 (by decide) e57 rfl dX4_next_57 ?_
    refine td_aload_n 0 dX4_next_58 rfl ?_
    refine gf_X4_9 rfl kp_69 dX4_next_59 ?_
    refine td_iload_n 1 dX4_next_62 rfl ?_
    obtain ⟨e63, K⟩ := K
    refine td_ialdc (j := (ix x1)) kp_70 (by decide) e63 rfl dX4_next_63 ?_
    obtain ⟨Kt, Kf⟩ := K
    refine td_icmp_ge (tgt := 73) dX4_next_64 (by decide) (fun q64 => ?_) (fun q64 => ?_)
    · have K := Kt q64
      refine td_aload_n 0 dX4_next_73 rfl ?_
      refine td_iload_n 1 dX4_next_74 rfl ?_
      refine td_iload_n 2 dX4_next_75 rfl ?_
      refine cl_X4_63 rfl kp_69 dX4_next_76 (Nat.le_of_ble_eq_true rfl) (c_O_exchange x1 x2 e63 e57) (eV_k ?_)
      refine td_eqs (st2 := []) rfl ?_
      refine td_iload_n 1 dX4_next_79 rfl ?_
      refine td_iconst (v := 1) dX4_next_80 (by decide) ?_
      refine td_iadd dX4_next_81 ?_
      refine td_istore_n (lv2 := [(0, .ref 69), (1, .int x1), (2, .int x2), (3, .int (x1 + 1))]) dX4_next_82 (by decide) rfl ?_
      refine td_aload_n 0 dX4_next_83 rfl ?_
      refine gf_X4_34 rfl kp_69 dX4_next_84 ?_
      refine td_iconst (v := 1) dX4_next_87 (by decide) ?_
      refine td_isub dX4_next_88 ?_
      refine td_istore (lv2 := [(0, .ref 69), (1, .int x1), (2, .int x2), (3, .int (x1 + 1)), (4, .int (((exH h (ix x1) (ix x2)) 69 3) - 1))]) dX4_next_89 (by decide) rfl ?_
      exact K
    · have K := Kf q64
      refine td_iinc 2 (v := x2 + (-1)) (lv2 := [(0, .ref 69), (1, .int x1), (2, .int (x2 + (-1)))]) dX4_next_67 rfl (congrArg (x2 + ·) (by decide)) (by decide) rfl ?_
      refine td_goto (tgt := 47) dX4_next_70 (by decide) ?_
      exact K
set_option maxRecDepth 20000 in
set_option maxHeartbeats 4000000 in
theorem gX4_next_91 {G : td_G} {d : Nat} {Post : td_P} {x1 x2 x3 x4 : Int32} {h : td_H} (K : (x4 ≤ x3 → (Post (some (.int 1)) h)) ∧ (¬ x4 ≤ x3 → (vp_in x3 6 ∧ vp_in x4 6 ∧ (td_J G (d + 1) mX4_next Post 91 [(0, .ref 69), (1, .int x1), (2, .int x2), (3, .int (x3 + 1)), (4, .int (x4 + (-1)))] [] (exH h (ix x3) (ix x4)))))) : td_J G (d + 1) mX4_next Post 91 [(0, .ref 69), (1, .int x1), (2, .int x2), (3, .int x3), (4, .int x4)] [] h := by
  refine td_iload_n 3 dX4_next_91 rfl ?_
  refine td_iload 4 dX4_next_92 rfl ?_
  obtain ⟨Kt, Kf⟩ := K
  refine td_icmp_ge (tgt := 113) dX4_next_94 (by decide) (fun q94 => ?_) (fun q94 => ?_)
  · have K := Kt q94
    refine td_iconst (v := 1) dX4_next_113 (by decide) ?_
    exact td_zreturn rfl rfl dX4_next_114 K
  · have K := Kf q94
    refine td_aload_n 0 dX4_next_97 rfl ?_
    refine td_iload_n 3 dX4_next_98 rfl ?_
    refine td_iload 4 dX4_next_99 rfl ?_
    obtain ⟨e101_0, K⟩ := K
    obtain ⟨e101_1, K⟩ := K
    refine cl_X4_63 rfl kp_69 dX4_next_101 (Nat.le_of_ble_eq_true rfl) (c_O_exchange x3 x4 e101_0 e101_1) (eV_k ?_)
    refine td_eqs (st2 := []) rfl ?_
    refine td_iinc 3 (v := x3 + 1) (lv2 := [(0, .ref 69), (1, .int x1), (2, .int x2), (3, .int (x3 + 1)), (4, .int x4)]) dX4_next_104 rfl (congrArg (x3 + ·) (by decide)) (by decide) rfl ?_
    refine td_iinc 4 (v := x4 + (-1)) (lv2 := [(0, .ref 69), (1, .int x1), (2, .int x2), (3, .int (x3 + 1)), (4, .int (x4 + (-1)))]) dX4_next_107 rfl (congrArg (x4 + ·) (by decide)) (by decide) rfl ?_
    refine td_goto (tgt := 91) dX4_next_110 (by decide) ?_
    exact K
theorem flF_le (r : Nat → Nat) : ∀ k, flF r k ≤ k
  | 0 => Nat.le_refl _
  | k + 1 => by
    unfold flF
    split
    · have := flF_le r k; omega
    · exact Nat.le_refl _
theorem swF_le (r : Nat → Nat) (x : Nat) : ∀ k, swF r x k ≤ k
  | 0 => Nat.le_refl _
  | k + 1 => by
    unfold swF
    split
    · have := swF_le r x k; omega
    · exact Nat.le_refl _
theorem exH_o (h : td_H) (a b x y : Nat) (n : x ≠ 70) : exH h a b x y = h x y := by unfold exH; rw [hu_app, if_neg (fun z => n z.1), hu_app, if_neg (fun z => n z.1)]
theorem exH_70 (h : td_H) (a b y : Nat) : exH h a b 70 y = if y = b then h 70 a else if y = a then h 70 b else h 70 y := by
  unfold exH
  rw [hu_app, hu_app]
  by_cases e : y = b
  · rw [if_pos ⟨rfl, e⟩, if_pos e]
  · rw [if_neg (fun z => e z.2), if_neg e]
    by_cases e2 : y = a
    · rw [if_pos ⟨rfl, e2⟩, if_pos e2]
    · rw [if_neg (fun z => e2 z.2), if_neg e2]
/-- the suffix behind f, turned from its ends up to i and j -/
def rvM (K f : Nat) (r : Nat → Nat) (i j : Nat) : Nat → Nat := fun b => if b ≤ f then r b else if b < i ∨ j < b then r (K + f - b) else r b
theorem c_O_next {G : td_G} {d : Nat} {h : td_H} (K : Nat) (r : Nat → Nat) (h1 : 1 ≤ K) (h6 : K ≤ 6) (h3 : h 69 3 = nI K) (hr : ∀ a, a < K → h 70 a = nI (r a) ∧ r a < 12) : td_C G (d + 1) mX4_next [.ref 69] h (fun res h' => res = some (.int (b2i (flF r (K - 1) ≠ 0))) ∧ (∀ a b, a ≠ 70 → h' a b = h a b) ∧ (flF r (K - 1) ≠ 0 → ∀ a, a < K → h' 70 a = nI (nxF K r a))) := by
  refine td_entry rfl (Nat.le_of_ble_eq_true rfl) rfl (gX4_next_0 ?_)
  -- the turning
  have turn : ∀ f J, flF r (K - 1) = f + 1 → f < K → J < K → swF r (r f) (K - 1) = J → ∀ m (H : td_H) x1 x2, ∀ i j, i + j = K + f → f + 1 ≤ i → j < K → j + 1 - i ≤ m → (∀ a b, a ≠ 70 → H a b = h a b) → (∀ b, b < K → H 70 b = nI (rvM K f (swp r f J) i j b)) → td_J G (d + 1) mX4_next (fun res h' => res = some (.int (b2i (flF r (K - 1) ≠ 0))) ∧ (∀ a b, a ≠ 70 → h' a b = h a b) ∧ (flF r (K - 1) ≠ 0 → ∀ a, a < K → h' 70 a = nI (nxF K r a))) 91 [(0, .ref 69), (1, .int x1), (2, .int x2), (3, .int (nI i)), (4, .int (nI j))] [] H := by
    intro f J hf hfK hJ hs m
    induction m with
    | zero =>
      intro H x1 x2 i j hij hi hj hm hF hv
      refine gX4_next_91 ⟨fun _ => ⟨?_, hF, fun _ b hb => ?_⟩, fun y => absurd (nle_of y) (by omega)⟩
      · rw [show b2i (flF r (K - 1) ≠ 0) = 1 from b2i_1.mpr (by omega)]
      · rw [hv b hb]
        congr 1
        unfold rvM nxF
        rw [hf, show f + 1 - 1 = f from rfl, hs]
        by_cases z : b ≤ f
        · rw [if_pos z, if_pos z]
        · rw [if_neg z, if_neg z, if_pos (by omega)]
    | succ m ih =>
      intro H x1 x2 i j hij hi hj hm hF hv
      by_cases y : j ≤ i
      · refine gX4_next_91 ⟨fun _ => ⟨?_, hF, fun _ b hb => ?_⟩, fun z => absurd (nle_of z) (by omega)⟩
        · rw [show b2i (flF r (K - 1) ≠ 0) = 1 from b2i_1.mpr (by omega)]
        · rw [hv b hb]
          congr 1
          unfold rvM nxF
          rw [hf, show f + 1 - 1 = f from rfl, hs]
          by_cases z : b ≤ f
          · rw [if_pos z, if_pos z]
          · rw [if_neg z, if_neg z]
            by_cases w : b < i ∨ j < b
            · rw [if_pos w]
            · rw [if_neg w]
              congr 1
              omega
      · refine gX4_next_91 ⟨fun z => absurd (le_of z) (by omega), fun _ => ⟨vp_in_nI (by omega) (by decide), vp_in_nI (by omega) (by decide), ?_⟩⟩
        rw [ixn (i := i) (by omega), ixn (i := j) (by omega)]
        refine td_to (ih (exH H i j) x1 x2 (i + 1) (j - 1) (by omega) (by omega) (by omega) (by omega) (fun a b n => ?_) (fun b hb => ?_)) ?_ rfl rfl
        · rw [exH_o _ _ _ _ _ n]; exact hF a b n
        · rw [exH_70, hv i (by omega), hv j hj, hv b hb]
          unfold rvM
          by_cases c1 : b = j
          · rw [if_pos c1, if_neg (by omega), if_neg (by omega), if_neg (by omega), if_pos (by omega)]
            congr 2
            omega
          · rw [if_neg c1]
            by_cases c2 : b = i
            · rw [if_pos c2, if_neg (by omega), if_neg (by omega), if_neg (by omega), if_pos (by omega)]
              congr 2
              omega
            · rw [if_neg c2]
              by_cases z : b ≤ f
              · rw [if_pos z, if_pos z]
              · rw [if_neg z, if_neg z]
                by_cases w : b < i ∨ j < b
                · rw [if_pos w, if_pos (by omega)]
                · rw [if_neg w, if_neg (by omega)]
        · rw [nI_1, show nI j + -1 = nI (j - 1) from (Int32.sub_eq_add_neg _ _).symm.trans (pk_sub (a := j) (b := 1) (by omega))]
  -- with whom to change
  have swl : ∀ f, flF r (K - 1) = f + 1 → f < K → ∀ j, f ≤ j → j < K → swF r (r f) j = swF r (r f) (K - 1) → td_J G (d + 1) mX4_next (fun res h' => res = some (.int (b2i (flF r (K - 1) ≠ 0))) ∧ (∀ a b, a ≠ 70 → h' a b = h a b) ∧ (flF r (K - 1) ≠ 0 → ∀ a, a < K → h' 70 a = nI (nxF K r a))) 47 [(0, .ref 69), (1, .int (nI f)), (2, .int (nI j))] [] h := by
    intro f hf hfK
    have flt : f + 1 < K + 1 := by omega
    have fin : ∀ j, f ≤ j → j < K → swF r (r f) (K - 1) = j → td_J G (d + 1) mX4_next (fun res h' => res = some (.int (b2i (flF r (K - 1) ≠ 0))) ∧ (∀ a b, a ≠ 70 → h' a b = h a b) ∧ (flF r (K - 1) ≠ 0 → ∀ a, a < K → h' 70 a = nI (nxF K r a))) 91 [(0, .ref 69), (1, .int (nI f)), (2, .int (nI j)), (3, .int (nI f + 1)), (4, .int (((exH h (ix (nI f)) (ix (nI j))) 69 3) - 1))] [] (exH h (ix (nI f)) (ix (nI j))) := by
      intro j h4 h5 hs
      have fl := flF_le r (K - 1)
      rw [ixn (by omega), ixn (by omega), exH_o _ _ _ _ _ (by decide), h3, nI_1, show nI K - 1 = nI (K - 1) from pk_sub (a := K) (b := 1) (by omega)]
      refine turn f j hf hfK h5 hs K (exH h f j) _ _ (f + 1) (K - 1) (by omega) (by omega) (by omega) (by omega) (fun a b n => exH_o _ _ _ _ _ n) (fun b hb => ?_)
      rw [exH_70, (hr f hfK).1, (hr j h5).1, (hr b hb).1]
      have er : rvM K f (swp r f j) (f + 1) (K - 1) b = swp r f j b := by
        unfold rvM
        by_cases z : b ≤ f
        · rw [if_pos z]
        · rw [if_neg z, if_neg (by omega)]
      rw [er]
      unfold swp
      by_cases c2 : b = j
      · rw [if_pos c2]
        by_cases c1 : b = f
        · rw [if_pos c1, ← c2, c1]
        · rw [if_neg c1, if_pos c2]
      · rw [if_neg c2]
        by_cases c1 : b = f
        · rw [if_pos c1, if_pos c1]
        · rw [if_neg c1, if_neg c1, if_neg c2]
    intro j
    induction j with
    | zero =>
      intro h4 h5 hs
      have : f = 0 := by omega
      subst this
      refine gX4_next_47 ⟨fun _ => ⟨vp_in_nI (by omega) (by decide), vp_in_nI (by omega) (by decide), fin 0 h4 h5 hs.symm⟩, fun y => absurd (nle_of y) (by omega)⟩
    | succ j ih =>
      intro h4 h5 hs
      have rj := (hr (j + 1) h5).2
      have rf := (hr f hfK).2
      have v1 : vp_in (nI f) 6 := vp_in_nI (by omega) (by decide)
      have v2 : vp_in (nI (j + 1)) 6 := vp_in_nI (by omega) (by decide)
      rw [show swF r (r f) (j + 1) = if r (j + 1) < r f then swF r (r f) j else j + 1 from rfl] at hs
      refine gX4_next_47 ⟨fun y => ?_, fun y => ?_⟩
      · have y2 := le_of y
        have : f = j + 1 := by omega
        rw [if_neg (by rw [this]; omega)] at hs
        exact ⟨v1, v2, fin (j + 1) h4 h5 hs.symm⟩
      · have y2 := nle_of y
        refine ⟨v2, v1, fun z => ?_, fun z => ?_⟩
        · rw [ixn (i := f) (by omega), ixn (i := j + 1) (by omega), (hr f hfK).1, (hr (j + 1) h5).1] at z
          have z2 := le_of z
          rw [if_neg (by omega)] at hs
          exact fin (j + 1) h4 h5 hs.symm
        · rw [ixn (i := f) (by omega), ixn (i := j + 1) (by omega), (hr f hfK).1, (hr (j + 1) h5).1] at z
          have z2 := nle_of z
          rw [if_pos z2] at hs
          exact td_to (ih (by omega) (by omega) hs) (by rw [show nI (j + 1) + -1 = nI j from (Int32.sub_eq_add_neg _ _).symm.trans (pk_sub (a := j + 1) (b := 1) (by omega))]) rfl rfl
  -- where it falls
  have fall : ∀ k, k ≤ K - 1 → flF r k = flF r (K - 1) → td_J G (d + 1) mX4_next (fun res h' => res = some (.int (b2i (flF r (K - 1) ≠ 0))) ∧ (∀ a b, a ≠ 70 → h' a b = h a b) ∧ (flF r (K - 1) ≠ 0 → ∀ a, a < K → h' 70 a = nI (nxF K r a))) 7 [(0, .ref 69), (1, .int (nI k - 1))] [] h := by
    intro k
    induction k with
    | zero =>
      intro hk hs
      have hs : flF r (K - 1) = 0 := hs.symm
      exact gX4_next_7 ⟨fun _ => ⟨fun y => absurd y (by decide), fun _ => ⟨by rw [show b2i (flF r (K - 1) ≠ 0) = 0 from b2i_0.mpr (by omega)], fun _ _ _ => rfl, fun y => absurd hs y⟩⟩, fun y => absurd (by decide) y⟩
    | succ k ih =>
      intro hk hs
      have e1 : nI (k + 1) - 1 = nI k := pk_sub (a := k + 1) (b := 1) (by omega)
      rw [show flF r (k + 1) = if r (k + 1) < r k then flF r k else k + 1 from rfl] at hs
      have ra := (hr k (by omega)).2
      have rb := (hr (k + 1) (by omega)).2
      rw [e1]
      refine gX4_next_7 ⟨fun y => absurd y (nI_pos (by omega)), fun _ => ?_⟩
      rw [nI_1, ixn (i := k) (by omega), ixn (i := k + 1) (by omega), (hr k (by omega)).1, (hr (k + 1) (by omega)).1, h3, show nI K - 1 = nI (K - 1) from pk_sub (a := K) (b := 1) (by omega)]
      refine ⟨vp_in_nI (by omega) (by decide), vp_in_nI (by omega) (by decide), fun y => ⟨fun _ => ?_, fun z => absurd ((nI_leI (a := 0) (by decide) (by omega)).mpr (Nat.zero_le _)) z⟩, fun y => ?_⟩
      · have y2 := le_of y
        rw [if_neg (by omega)] at hs
        exact swl k hs.symm (by omega) (K - 1) (by omega) (by omega) rfl
      · have y2 := nle_of y
        rw [if_pos y2] at hs
        exact td_to (ih (by omega) hs) (by rw [show nI k + -1 = nI k - 1 from (Int32.sub_eq_add_neg _ _).symm]) rfl rfl
  refine td_to (fall (K - 1) (Nat.le_refl _) rfl) ?_ rfl rfl
  rw [h3, show nI K - 2 = nI (K - 1) - 1 from by
    have e : nI K - 1 = nI (K - 1) := pk_sub (a := K) (b := 1) (by omega)
    rw [← e]
    rcases (by omega : K = 1 ∨ K = 2 ∨ K = 3 ∨ K = 4 ∨ K = 5 ∨ K = 6) with z | z | z | z | z | z <;> subst z <;> decide]
/-- rows of people go as rows of numbers do -/
theorem flF_w {K : Nat} {w π : Nat → Nat} (hm : ∀ a b, a < K → b < K → (w (π a) < w (π b) ↔ π a < π b)) : ∀ k, k < K → flF (fun a => w (π a)) k = flF π k
  | 0, _ => rfl
  | k + 1, hk => by
    unfold flF
    by_cases y : π (k + 1) < π k
    · rw [if_pos ((hm (k + 1) k hk (by omega)).mpr y), if_pos y]
      exact flF_w hm k (by omega)
    · rw [if_neg (fun z => y ((hm (k + 1) k hk (by omega)).mp z)), if_neg y]
theorem swF_w {K f : Nat} {w π : Nat → Nat} (hf : f < K) (hm : ∀ a b, a < K → b < K → (w (π a) < w (π b) ↔ π a < π b)) : ∀ k, k < K → swF (fun a => w (π a)) (w (π f)) k = swF π (π f) k
  | 0, _ => rfl
  | k + 1, hk => by
    unfold swF
    by_cases y : π (k + 1) < π f
    · rw [if_pos ((hm (k + 1) f hk hf).mpr y), if_pos y]
      exact swF_w hf hm k (by omega)
    · rw [if_neg (fun z => y ((hm (k + 1) f hk hf).mp z)), if_neg y]
theorem nxF_w {K : Nat} (hK : 1 ≤ K) {w π : Nat → Nat} (hm : ∀ a b, a < K → b < K → (w (π a) < w (π b) ↔ π a < π b)) (a : Nat) : nxF K (fun a => w (π a)) a = w (nxF K π a) := by
  have e1 := flF_w hm (K - 1) (by omega)
  have fl := flF_le π (K - 1)
  unfold nxF
  rw [e1, swF_w (f := flF π (K - 1) - 1) (by omega) hm (K - 1) (by omega)]
  have es : ∀ x y z, swp (fun a => w (π a)) x y z = w (swp π x y z) := fun x y z => by
    unfold swp
    split
    · rfl
    · split <;> rfl
  split <;> rw [es]
