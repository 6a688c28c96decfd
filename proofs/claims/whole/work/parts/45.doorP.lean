/-! Door: they are gathered, line up -/
theorem ms_up_t {P : Nat → Bool} {p : Nat} (h : P p = true) : ms (fun j => decide (j < p) && P j) ||| ms (fun j => decide (j = p)) = ms (fun j => decide (j < p + 1) && P j) := by
  rw [ms_or]
  refine ms_ext (fun j _ => ?_)
  by_cases e : j = p
  · subst e; simp [h]
  · have : (j < p + 1) = (j < p) := by apply propext; omega
    simp [e, this]
theorem ms_up_f {P : Nat → Bool} {p : Nat} (h : P p = false) : ms (fun j => decide (j < p) && P j) = ms (fun j => decide (j < p + 1) && P j) := by
  refine ms_ext (fun j _ => ?_)
  by_cases e : j = p
  · subst e; simp [h]
  · have : (j < p + 1) = (j < p) := by apply propext; omega
    simp [this]
set_option maxRecDepth 20000 in
set_option maxHeartbeats 4000000 in
theorem gX0_gather_0 {G : td_G} {d : Nat} {Post : td_P} {k0 : Nat} {h : td_H} (hk0 : td_kd k0 = 0) (K : ∀ H16 : td_H, H16 = hu (hu (hu h k0 7 0) k0 8 0) (k0 + 14) 0 0 → (∀ H29 : td_H, H29 = fillH (hu H16 (k0 + 14) 1 0) ((k0 + 13)) 120 0 → (td_J G (d + 1) mX0_gather Post 34 [(0, .ref k0), (1, .int 0)] [] H29))) : td_J G (d + 1) mX0_gather Post 0 [(0, .ref k0)] [] h := by
  refine td_aload_n 0 dX0_gather_0 rfl ?_
  refine td_iconst (v := 0) dX0_gather_1 (by decide) ?_
  refine pf_X0_76 rfl hk0 dX0_gather_2 ?_
  refine td_aload_n 0 dX0_gather_5 rfl ?_
  refine td_iconst (v := 0) dX0_gather_6 (by decide) ?_
  refine pf_X0_79 rfl hk0 dX0_gather_7 ?_
  refine td_aload_n 0 dX0_gather_10 rfl ?_
  refine gf_X0_32 rfl hk0 dX0_gather_11 ?_
  refine td_iconst (v := 0) dX0_gather_14 (by decide) ?_
  refine td_iconst (v := 0) dX0_gather_15 (by decide) ?_
  refine td_iastc (j := 0) (kd_0_4 hk0) (by decide) (by unfold vp_in; decide) (by decide) dX0_gather_16 ?_
  obtain ⟨H16, E16⟩ : ∃ z : td_H, z = hu (hu (hu h k0 7 0) k0 8 0) (k0 + 14) 0 0 := ⟨_, rfl⟩
  have K := K H16 E16
  refine td_eqh E16 ?_
  refine td_aload_n 0 dX0_gather_17 rfl ?_
  refine gf_X0_32 rfl hk0 dX0_gather_18 ?_
  refine td_iconst (v := 1) dX0_gather_21 (by decide) ?_
  refine td_iconst (v := 0) dX0_gather_22 (by decide) ?_
  refine td_iastc (j := 1) (kd_0_4 hk0) (by decide) (by unfold vp_in; decide) (by decide) dX0_gather_23 ?_
  refine td_aload_n 0 dX0_gather_24 rfl ?_
  refine gf_X0_29 rfl hk0 dX0_gather_25 ?_
  refine td_iconst (v := 0) dX0_gather_28 (by decide) ?_
  refine cl_X0_82 rfl dX0_gather_29 (Nat.le_of_ble_eq_true rfl) (c_fill (kd_0_3 hk0) (by decide) 0) (eV_k ?_)
  refine td_eqs (st2 := []) rfl ?_
  obtain ⟨H29, E29⟩ : ∃ z : td_H, z = fillH (hu H16 (k0 + 14) 1 0) ((k0 + 13)) 120 0 := ⟨_, rfl⟩
  have K := K H29 E29
  refine td_eqh E29 ?_
  refine td_iconst (v := 0) dX0_gather_32 (by decide) ?_
  refine td_istore_n (lv2 := [(0, .ref k0), (1, .int 0)]) dX0_gather_33 (by decide) rfl ?_
  exact K
set_option maxRecDepth 20000 in
set_option maxHeartbeats 4000000 in
theorem gX0_gather_34 {G : td_G} {d : Nat} {Post : td_P} {k0 : Nat} {x1 : Int32} {h : td_H} (hk0 : td_kd k0 = 0) (K : td_kd (ix (h k0 5)) = 5 ∧ (((h (ix (h k0 5)) 4) ≤ x1 → (Post none h)) ∧ (¬ (h (ix (h k0 5)) 4) ≤ x1 → (vp_in x1 12 ∧ (vp_in (h (ix (h k0 5) + 3) (ix x1)) 2 ∧ (∀ H66 : td_H, H66 = hu h (k0 + 14) (ix (h (ix (h k0 5) + 3) (ix x1))) ((h (k0 + 14) (ix (h (ix (h k0 5) + 3) (ix x1)))) ||| (jshl 1 x1)) → (td_kd (ix (H66 k0 5)) = 5 ∧ (vp_in (H66 (ix (H66 k0 5) + 2) (ix x1)) 120 ∧ (∀ H89 : td_H, H89 = hu H66 (k0 + 13) (ix (H66 (ix (H66 k0 5) + 2) (ix x1))) ((H66 (k0 + 13) (ix (H66 (ix (H66 k0 5) + 2) (ix x1)))) ||| ((jshl 1 x1) &&& (H66 k0 6))) → (td_kd (ix (H89 k0 5)) = 5 ∧ (td_J G (d + 1) mX0_gather Post 34 [(0, .ref k0), (1, .int (x1 + 1))] [] (if (H89 (ix (H89 k0 5) + 4) (ix x1)) = 3 then (hu H89 k0 7 ((H89 k0 7) ||| (jshl 1 x1))) else if (H89 (ix (H89 k0 5) + 4) (ix x1)) = 5 then (hu H89 k0 8 ((H89 k0 8) ||| (jshl 1 x1))) else H89 : td_H)))))))))))) : td_J G (d + 1) mX0_gather Post 34 [(0, .ref k0), (1, .int x1)] [] h := by
  refine td_iload_n 1 dX0_gather_34 rfl ?_
  refine td_aload_n 0 dX0_gather_35 rfl ?_
  refine gf_X0_38 rfl hk0 dX0_gather_36 ?_
  obtain ⟨e36, K⟩ := K
  refine gf_X0_88 rfl e36 dX0_gather_39 ?_
  obtain ⟨Kt, Kf⟩ := K
  refine td_icmp_ge (tgt := 145) dX0_gather_42 (by decide) (fun q42 => ?_) (fun q42 => ?_)
  · have K := Kt q42
    exact td_return rfl dX0_gather_145 K
  · have K := Kf q42
    refine td_iconst (v := 1) dX0_gather_45 (by decide) ?_
    refine td_iload_n 1 dX0_gather_46 rfl ?_
    refine td_ishl dX0_gather_47 ?_
    refine td_istore_n (lv2 := [(0, .ref k0), (1, .int x1), (2, .int (jshl 1 x1))]) dX0_gather_48 (by decide) rfl ?_
    refine td_aload_n 0 dX0_gather_49 rfl ?_
    refine gf_X0_32 rfl hk0 dX0_gather_50 ?_
    refine td_aload_n 0 dX0_gather_53 rfl ?_
    refine gf_X0_38 rfl hk0 dX0_gather_54 ?_
    refine gf_X0_91 rfl e36 dX0_gather_57 ?_
    refine td_iload_n 1 dX0_gather_60 rfl ?_
    obtain ⟨e61, K⟩ := K
    refine td_ialdc (j := (ix x1)) (kd_5_2 e36) (by decide) e61 rfl dX0_gather_61 ?_
    refine td_dup2 dX0_gather_62 rfl rfl ?_
    obtain ⟨e63, K⟩ := K
    refine td_ialdc (j := (ix (h (ix (h k0 5) + 3) (ix x1)))) (kd_0_4 hk0) (by decide) e63 rfl dX0_gather_63 ?_
    refine td_iload_n 2 dX0_gather_64 rfl ?_
    refine td_ior dX0_gather_65 ?_
    refine td_iastc (j := (ix (h (ix (h k0 5) + 3) (ix x1)))) (kd_0_4 hk0) (by decide) e63 rfl dX0_gather_66 ?_
    obtain ⟨H66, E66⟩ : ∃ z : td_H, z = hu h (k0 + 14) (ix (h (ix (h k0 5) + 3) (ix x1))) ((h (k0 + 14) (ix (h (ix (h k0 5) + 3) (ix x1)))) ||| (jshl 1 x1)) := ⟨_, rfl⟩
    have K := K H66 E66
    refine td_eqh E66 ?_
    refine td_aload_n 0 dX0_gather_67 rfl ?_
    refine gf_X0_29 rfl hk0 dX0_gather_68 ?_
    refine td_aload_n 0 dX0_gather_71 rfl ?_
    refine gf_X0_38 rfl hk0 dX0_gather_72 ?_
    obtain ⟨e72, K⟩ := K
    refine gf_X0_94 rfl e72 dX0_gather_75 ?_
    refine td_iload_n 1 dX0_gather_78 rfl ?_
    refine td_ialdc (j := (ix x1)) (kd_5_1 e72) (by decide) e61 rfl dX0_gather_79 ?_
    refine td_dup2 dX0_gather_80 rfl rfl ?_
    obtain ⟨e81, K⟩ := K
    refine td_ialdc (j := (ix (H66 (ix (H66 k0 5) + 2) (ix x1)))) (kd_0_3 hk0) (by decide) e81 rfl dX0_gather_81 ?_
    refine td_iload_n 2 dX0_gather_82 rfl ?_
    refine td_aload_n 0 dX0_gather_83 rfl ?_
    refine gf_X0_42 rfl hk0 dX0_gather_84 ?_
    refine td_iand dX0_gather_87 ?_
    refine td_ior dX0_gather_88 ?_
    refine td_iastc (j := (ix (H66 (ix (H66 k0 5) + 2) (ix x1)))) (kd_0_3 hk0) (by decide) e81 rfl dX0_gather_89 ?_
    obtain ⟨H89, E89⟩ : ∃ z : td_H, z = hu H66 (k0 + 13) (ix (H66 (ix (H66 k0 5) + 2) (ix x1))) ((H66 (k0 + 13) (ix (H66 (ix (H66 k0 5) + 2) (ix x1)))) ||| ((jshl 1 x1) &&& (H66 k0 6))) := ⟨_, rfl⟩
    have K := K H89 E89
    refine td_eqh E89 ?_
    refine td_aload_n 0 dX0_gather_90 rfl ?_
    refine gf_X0_38 rfl hk0 dX0_gather_91 ?_
    obtain ⟨e91, K⟩ := K
    refine gf_X0_97 rfl e91 dX0_gather_94 ?_
    refine td_iload_n 1 dX0_gather_97 rfl ?_
    refine td_ialdc (j := (ix x1)) (kd_5_3 e91) (by decide) e61 rfl dX0_gather_98 ?_
    refine td_iconst (v := 3) dX0_gather_99 (by decide) ?_
    have KJ139 : td_J G (d + 1) mX0_gather Post 139 [(0, .ref k0), (1, .int x1), (2, .int (jshl 1 x1))] [] (if (H89 (ix (H89 k0 5) + 4) (ix x1)) = 3 then (hu H89 k0 7 ((H89 k0 7) ||| (jshl 1 x1))) else if (H89 (ix (H89 k0 5) + 4) (ix x1)) = 5 then (hu H89 k0 8 ((H89 k0 8) ||| (jshl 1 x1))) else H89 : td_H) := by
      refine td_iinc 1 (v := x1 + 1) (lv2 := [(0, .ref k0), (1, .int (x1 + 1)), (2, .int (jshl 1 x1))]) dX0_gather_139 rfl (congrArg (x1 + ·) (by decide)) (by decide) rfl ?_
      refine td_goto (tgt := 34) dX0_gather_142 (by decide) ?_
      refine td_drop (lv2 := [(0, .ref k0), (1, .int (x1 + 1))]) [0, 1] rfl ?_
      exact K
    refine td_icmp_ne (tgt := 116) dX0_gather_100 (by decide) (fun q100 => ?_) (fun q100 => ?_)
    · skip
      refine td_aload_n 0 dX0_gather_116 rfl ?_
      refine gf_X0_38 rfl hk0 dX0_gather_117 ?_
      refine gf_X0_97 rfl e91 dX0_gather_120 ?_
      refine td_iload_n 1 dX0_gather_123 rfl ?_
      refine td_ialdc (j := (ix x1)) (kd_5_3 e91) (by decide) e61 rfl dX0_gather_124 ?_
      refine td_iconst (v := 5) dX0_gather_125 (by decide) ?_
      refine td_icmp_ne (tgt := 139) dX0_gather_126 (by decide) (fun q126 => ?_) (fun q126 => ?_)
      · skip
        exact td_to KJ139 rfl rfl (by rw [show (if (H89 (ix (H89 k0 5) + 4) (ix x1)) = 3 then (hu H89 k0 7 ((H89 k0 7) ||| (jshl 1 x1))) else if (H89 (ix (H89 k0 5) + 4) (ix x1)) = 5 then (hu H89 k0 8 ((H89 k0 8) ||| (jshl 1 x1))) else H89 : td_H) = _ from (if_neg q100).trans (if_neg q126)])
      · skip
        refine td_aload_n 0 dX0_gather_129 rfl ?_
        refine td_dup dX0_gather_130 rfl ?_
        refine gf_X0_79 rfl hk0 dX0_gather_131 ?_
        refine td_iload_n 2 dX0_gather_134 rfl ?_
        refine td_ior dX0_gather_135 ?_
        refine pf_X0_79 rfl hk0 dX0_gather_136 ?_
        exact td_to KJ139 rfl rfl (by rw [show (if (H89 (ix (H89 k0 5) + 4) (ix x1)) = 3 then (hu H89 k0 7 ((H89 k0 7) ||| (jshl 1 x1))) else if (H89 (ix (H89 k0 5) + 4) (ix x1)) = 5 then (hu H89 k0 8 ((H89 k0 8) ||| (jshl 1 x1))) else H89 : td_H) = _ from (if_neg q100).trans (if_pos q126)])
    · skip
      refine td_aload_n 0 dX0_gather_103 rfl ?_
      refine td_dup dX0_gather_104 rfl ?_
      refine gf_X0_76 rfl hk0 dX0_gather_105 ?_
      refine td_iload_n 2 dX0_gather_108 rfl ?_
      refine td_ior dX0_gather_109 ?_
      refine pf_X0_76 rfl hk0 dX0_gather_110 ?_
      refine td_goto (tgt := 139) dX0_gather_113 (by decide) ?_
      exact td_to KJ139 rfl rfl (by rw [show (if (H89 (ix (H89 k0 5) + 4) (ix x1)) = 3 then (hu H89 k0 7 ((H89 k0 7) ||| (jshl 1 x1))) else if (H89 (ix (H89 k0 5) + 4) (ix x1)) = 5 then (hu H89 k0 8 ((H89 k0 8) ||| (jshl 1 x1))) else H89 : td_H) = _ from if_pos q100])
def gaI (c : nH) (k p : Nat) (h h' : td_H) : Prop := (∀ a b, ¬ ((a = k ∧ (b = 7 ∨ b = 8)) ∨ a = k + 13 ∨ a = k + 14) → h' a b = h a b) ∧ h' k 7 = ms (fun j => decide (j < p) && kdM c 3 j) ∧ h' k 8 = ms (fun j => decide (j < p) && kdM c 5 j) ∧ (∀ s, s < 2 → h' (k + 14) s = ms (fun j => decide (j < p) && sdM c s j)) ∧ ∀ t, t < 120 → h' (k + 13) t = ms (fun j => decide (j < p) && cmM c t j)
theorem c_gather {G : td_G} {d : Nat} {h : td_H} {k q : Nat} {c : nH} (hk : td_kd k = 0) (hq : td_kd q = 5) (hsep : q + 4 < k) (h5 : h k 5 = nI q) (hP : dP c q h) (h6 : h k 6 = ms (comM c)) : td_C G (d + 1) mX0_gather [.ref k] h (fun r h' => r = none ∧ gaI c k (c 1 0) h h') := by
  have hq107 := td_kd_lt hq (by decide)
  have hn := hP.1.n
  refine td_entry rfl (Nat.le_of_ble_eq_true rfl) rfl (gX0_gather_0 hk (fun H16 E16 H29 E29 => ?_))
  have z0 : ∀ P : Nat → Bool, ms (fun j => decide (j < 0) && P j) = 0 := fun P => ms_0.mpr (fun i _ => by simp)
  refine td_forH (c 1 0) (fun p => [(0, .ref k), (1, .int (nI p))]) (fun p h' => gaI c k p h h') rfl ?_ (fun p hp h' hI ih => ?_) (fun h' hI => ?_)
  · rw [E29, E16]
    refine ⟨fun a b n => ?_, ?_, ?_, fun s hs => ?_, fun t ht => ?_⟩
    · unfold fillH
      rw [if_neg (by omega), hu_app, if_neg (by omega), hu_app, if_neg (by omega), hu_app, if_neg (by omega), hu_app, if_neg (by omega)]
    · unfold fillH
      rw [z0, if_neg (by omega), hu_app, if_neg (by omega), hu_app, if_neg (by omega), hu_app, if_neg (by omega), hu_app, if_pos ⟨rfl, rfl⟩]
    · unfold fillH
      rw [z0, if_neg (by omega), hu_app, if_neg (by omega), hu_app, if_neg (by omega), hu_app, if_pos ⟨rfl, rfl⟩]
    · unfold fillH
      rw [z0, if_neg (by omega)]
      rcases (by omega : s = 0 ∨ s = 1) with y | y <;> subst y
      · rw [hu_app, if_neg (by omega), hu_app, if_pos ⟨rfl, rfl⟩]
      · rw [hu_app, if_pos ⟨rfl, rfl⟩]
    · unfold fillH
      rw [z0, if_pos ⟨rfl, ht⟩]
  · obtain ⟨i0, i7, i8, i14, i13⟩ := hI
    have ep : ix (nI p) = p := ixn (by omega)
    have hpk := hP.1.p hp
    obtain ⟨pt, ps, pkd⟩ := hP.2.2.2 p hp
    have fr : ∀ H : td_H, (∀ a b, ¬ ((a = k ∧ (b = 7 ∨ b = 8)) ∨ a = k + 13 ∨ a = k + 14) → H a b = h a b) → ix (H k 5) = q ∧ H q 4 = nI (c 1 0) ∧ H (q + 2) p = nI (c 4 p) ∧ H (q + 3) p = nI (c 2 p) ∧ H (q + 4) p = nI (c 3 p) ∧ H k 6 = ms (comM c) := fun H hH => by
      refine ⟨?_, ?_, ?_, ?_, ?_, ?_⟩
      · rw [hH _ _ (by omega), h5]; exact ixn (by omega)
      · rw [hH _ _ (by omega)]; exact hP.2.2.1
      · rw [hH _ _ (by omega)]; exact pt
      · rw [hH _ _ (by omega)]; exact ps
      · rw [hH _ _ (by omega)]; exact pkd
      · rw [hH _ _ (by omega)]; exact h6
    obtain ⟨a1, a2, a3, a4, a5, a6⟩ := fr h' i0
    have one : jshl 1 (nI p) = ms (fun j => decide (j = p)) := ms_one (by omega)
    refine gX0_gather_34 hk ?_
    rw [a1, a2, ep, a4, ixn (by omega), one]
    refine ⟨hq, fun y => absurd (le_of y) (by omega), fun _ => ⟨vp_in_nI (by omega) (by decide), vp_in_nI hpk.1 (by decide), fun H66 E66 => ?_⟩⟩
    have i66 : ∀ a b, ¬ ((a = k ∧ (b = 7 ∨ b = 8)) ∨ a = k + 13 ∨ a = k + 14) → H66 a b = h a b := fun a b n => by rw [E66, hu_app, if_neg (by omega)]; exact i0 a b n
    obtain ⟨b1, b2, b3, b4, b5, b6⟩ := fr H66 i66
    rw [b1, b3, b6, ixn (by omega)]
    refine ⟨hq, vp_in_nI hpk.2.2 (by decide), fun H89 E89 => ?_⟩
    have i89 : ∀ a b, ¬ ((a = k ∧ (b = 7 ∨ b = 8)) ∨ a = k + 13 ∨ a = k + 14) → H89 a b = h a b := fun a b n => by rw [E89, hu_app, if_neg (by omega)]; exact i66 a b n
    obtain ⟨d1, d2, d3, d4, d5, d6⟩ := fr H89 i89
    rw [d1, d5]
    refine ⟨hq, ?_⟩
    rw [ite_c (p := nI (c 3 p) = 3) (q := c 3 p = 3) (nI_eq (b := 3) (by omega) (by decide)) _ _, ite_c (p := nI (c 3 p) = 5) (q := c 3 p = 5) (nI_eq (b := 5) (by omega) (by decide)) _ _]
    have j7 : H89 k 7 = ms (fun j => decide (j < p) && kdM c 3 j) := by rw [E89, hu_app, if_neg (by omega), E66, hu_app, if_neg (by omega)]; exact i7
    have j8 : H89 k 8 = ms (fun j => decide (j < p) && kdM c 5 j) := by rw [E89, hu_app, if_neg (by omega), E66, hu_app, if_neg (by omega)]; exact i8
    have j14 : ∀ s, s < 2 → H89 (k + 14) s = ms (fun j => decide (j < p + 1) && sdM c s j) := fun s hs => by
      rw [E89, hu_app, if_neg (by omega), E66, hu_app]
      by_cases y : s = c 2 p
      · rw [if_pos ⟨rfl, y⟩, i14 (c 2 p) hpk.1, y]
        exact ms_up_t (by unfold sdM; simp [hp])
      · rw [if_neg (fun z => y z.2), i14 s hs]
        exact ms_up_f (by unfold sdM; simp [show ¬ c 2 p = s from fun z => y z.symm])
    have j13 : ∀ t, t < 120 → H89 (k + 13) t = ms (fun j => decide (j < p + 1) && cmM c t j) := fun t ht => by
      have o66 : ∀ b, H66 (k + 13) b = h' (k + 13) b := fun b => by rw [E66, hu_app, if_neg (by omega)]
      rw [E89, hu_app]
      by_cases y : t = c 4 p
      · rw [if_pos ⟨rfl, y⟩, o66, i13 (c 4 p) hpk.2.2, ms_and, ms_or, y]
        refine ms_ext (fun j _ => ?_)
        by_cases e : j = p
        · subst e
          unfold comM cmM
          simp [hp]
        · have : (j < p + 1) = (j < p) := by apply propext; omega
          simp [e, this]
      · rw [if_neg (fun z => y z.2), o66, i13 t ht]
        exact ms_up_f (by unfold cmM; simp [show ¬ c 4 p = t from fun z => y z.symm])
    refine td_to (ih _ ?_) (by rw [nI_1]) rfl rfl
    by_cases y3 : c 3 p = 3
    · rw [if_pos y3]
      refine ⟨fun a b n => by rw [hu_app, if_neg (by omega)]; exact i89 a b n, ?_, ?_, fun s hs => ?_, fun t ht => ?_⟩
      · rw [hu_app, if_pos ⟨rfl, rfl⟩, j7]; exact ms_up_t (by unfold kdM; simp [hp, y3])
      · rw [hu_app, if_neg (by omega), j8]; exact ms_up_f (by unfold kdM; simp [y3])
      · rw [hu_app, if_neg (by omega)]; exact j14 s hs
      · rw [hu_app, if_neg (by omega)]; exact j13 t ht
    · rw [if_neg y3]
      by_cases y5 : c 3 p = 5
      · rw [if_pos y5]
        refine ⟨fun a b n => by rw [hu_app, if_neg (by omega)]; exact i89 a b n, ?_, ?_, fun s hs => ?_, fun t ht => ?_⟩
        · rw [hu_app, if_neg (by omega), j7]; exact ms_up_f (by unfold kdM; simp [y5])
        · rw [hu_app, if_pos ⟨rfl, rfl⟩, j8]; exact ms_up_t (by unfold kdM; simp [hp, y5])
        · rw [hu_app, if_neg (by omega)]; exact j14 s hs
        · rw [hu_app, if_neg (by omega)]; exact j13 t ht
      · rw [if_neg y5]
        refine ⟨i89, ?_, ?_, j14, j13⟩
        · rw [j7]; exact ms_up_f (by unfold kdM; simp [y3])
        · rw [j8]; exact ms_up_f (by unfold kdM; simp [y5])
  · obtain ⟨i0, i7, i8, i14, i13⟩ := hI
    have e5 : ix (h' k 5) = q := by rw [i0 _ _ (by omega), h5]; exact ixn (by omega)
    have e4 : h' q 4 = nI (c 1 0) := by rw [i0 _ _ (by omega)]; exact hP.2.2.1
    refine gX0_gather_34 hk ?_
    rw [e5, e4]
    exact ⟨hq, fun _ => ⟨rfl, i0, i7, i8, i14, i13⟩, fun y => absurd (nle_of y) (by omega)⟩
set_option maxRecDepth 20000 in
set_option maxHeartbeats 4000000 in
theorem gX0_lineUp_0 {G : td_G} {d : Nat} {Post : td_P} {k0 : Nat} {h : td_H} (hk0 : td_kd k0 = 0) (K : td_J G (d + 1) mX0_lineUp Post 2 [(0, .ref k0), (1, .int 0)] [] h) : td_J G (d + 1) mX0_lineUp Post 0 [(0, .ref k0)] [] h := by
  refine td_iconst (v := 0) dX0_lineUp_0 (by decide) ?_
  refine td_istore_n (lv2 := [(0, .ref k0), (1, .int 0)]) dX0_lineUp_1 (by decide) rfl ?_
  exact K
set_option maxRecDepth 20000 in
set_option maxHeartbeats 4000000 in
theorem gX0_lineUp_2 {G : td_G} {d : Nat} {Post : td_P} {k0 : Nat} {x1 : Int32} {h : td_H} (hk0 : td_kd k0 = 0) (K : td_kd (ix (h k0 5)) = 5 ∧ (((h (ix (h k0 5)) 4) ≤ x1 → (Post none h)) ∧ (¬ (h (ix (h k0 5)) 4) ≤ x1 → td_J G (d + 1) mX0_lineUp Post 15 [(0, .ref k0), (1, .int x1), (2, .int x1)] [] h))) : td_J G (d + 1) mX0_lineUp Post 2 [(0, .ref k0), (1, .int x1)] [] h := by
  refine td_iload_n 1 dX0_lineUp_2 rfl ?_
  refine td_aload_n 0 dX0_lineUp_3 rfl ?_
  refine gf_X0_38 rfl hk0 dX0_lineUp_4 ?_
  obtain ⟨e4, K⟩ := K
  refine gf_X0_88 rfl e4 dX0_lineUp_7 ?_
  obtain ⟨Kt, Kf⟩ := K
  refine td_icmp_ge (tgt := 68) dX0_lineUp_10 (by decide) (fun q10 => ?_) (fun q10 => ?_)
  · have K := Kt q10
    exact td_return rfl dX0_lineUp_68 K
  · have K := Kf q10
    refine td_iload_n 1 dX0_lineUp_13 rfl ?_
    refine td_istore_n (lv2 := [(0, .ref k0), (1, .int x1), (2, .int x1)]) dX0_lineUp_14 (by decide) rfl ?_
    exact K
set_option maxRecDepth 20000 in
set_option maxHeartbeats 4000000 in
theorem gX0_lineUp_15 {G : td_G} {d : Nat} {Post : td_P} {q : Nat} {c : nH} {k0 : Nat} {x1 x2 : Int32} {h : td_H} (hk0 : td_kd k0 = 0) (K : (x2 ≤ 0 → (vp_in x2 12 ∧ (td_J G (d + 1) mX0_lineUp Post 2 [(0, .ref k0), (1, .int (x1 + 1))] [] (hu h (k0 + 12) (ix x2) x1)))) ∧ (¬ x2 ≤ 0 → (vp_in (x2 - 1) 12 ∧ (td_kd q = 5 ∧ h (k0) 5 = nI q ∧ dP c q h ∧ vp_in x1 12 ∧ vp_in (h (k0 + 12) (ix (x2 - 1))) 12 ∧ ix x1 < c 1 0 ∧ ix (h (k0 + 12) (ix (x2 - 1))) < c 1 0 ∧ (((b2i (ahead c (ix x1) (ix (h (k0 + 12) (ix (x2 - 1)))) = true)) = 0 → (vp_in x2 12 ∧ (td_J G (d + 1) mX0_lineUp Post 2 [(0, .ref k0), (1, .int (x1 + 1))] [] (hu h (k0 + 12) (ix x2) x1)))) ∧ (¬ (b2i (ahead c (ix x1) (ix (h (k0 + 12) (ix (x2 - 1)))) = true)) = 0 → (vp_in x2 12 ∧ (∀ H48 : td_H, H48 = hu h (k0 + 12) (ix x2) (h (k0 + 12) (ix (x2 - 1))) → (td_J G (d + 1) mX0_lineUp Post 15 [(0, .ref k0), (1, .int x1), (2, .int (x2 + (-1)))] [] H48))))))))) : td_J G (d + 1) mX0_lineUp Post 15 [(0, .ref k0), (1, .int x1), (2, .int x2)] [] h := by
  refine td_iload_n 2 dX0_lineUp_15 rfl ?_
  obtain ⟨Kt, Kf⟩ := K
  refine td_if_le (tgt := 55) dX0_lineUp_16 (by decide) (fun q16 => ?_) (fun q16 => ?_)
  · have K := Kt q16
    refine td_aload_n 0 dX0_lineUp_55 rfl ?_
    refine gf_X0_25 rfl hk0 dX0_lineUp_56 ?_
    refine td_iload_n 2 dX0_lineUp_59 rfl ?_
    refine td_iload_n 1 dX0_lineUp_60 rfl ?_
    obtain ⟨e61, K⟩ := K
    refine td_iastc (j := (ix x2)) (kd_0_2 hk0) (by decide) e61 rfl dX0_lineUp_61 ?_
    refine td_iinc 1 (v := x1 + 1) (lv2 := [(0, .ref k0), (1, .int (x1 + 1)), (2, .int x2)]) dX0_lineUp_62 rfl (congrArg (x1 + ·) (by decide)) (by decide) rfl ?_
    refine td_goto (tgt := 2) dX0_lineUp_65 (by decide) ?_
    refine td_drop (lv2 := [(0, .ref k0), (1, .int (x1 + 1))]) [0, 1] rfl ?_
    exact K
  · have K := Kf q16
    refine td_aload_n 0 dX0_lineUp_19 rfl ?_
    refine td_iload_n 1 dX0_lineUp_20 rfl ?_
    refine td_aload_n 0 dX0_lineUp_21 rfl ?_
    refine gf_X0_25 rfl hk0 dX0_lineUp_22 ?_
    refine td_iload_n 2 dX0_lineUp_25 rfl ?_
    refine td_iconst (v := 1) dX0_lineUp_26 (by decide) ?_
    refine td_isub dX0_lineUp_27 ?_
    obtain ⟨e28, K⟩ := K
    refine td_ialdc (j := (ix (x2 - 1))) (kd_0_2 hk0) (by decide) e28 rfl dX0_lineUp_28 ?_
    obtain ⟨e29_0, K⟩ := K
    obtain ⟨e29_1, K⟩ := K
    obtain ⟨e29_2, K⟩ := K
    obtain ⟨e29_3, K⟩ := K
    obtain ⟨e29_4, K⟩ := K
    obtain ⟨e29_5, K⟩ := K
    obtain ⟨e29_6, K⟩ := K
    refine cl_X0_100 rfl hk0 dX0_lineUp_29 (Nat.le_of_ble_eq_true rfl) (c_isAhead' hk0 x1 (h (k0 + 12) (ix (x2 - 1))) e29_0 e29_1 e29_2 e29_3 e29_4 e29_5 e29_6) (eR_k ?_)
    refine td_eqs (st2 := [.int (b2i (ahead c (ix x1) (ix (h (k0 + 12) (ix (x2 - 1)))) = true))]) rfl ?_
    obtain ⟨Kt, Kf⟩ := K
    refine td_if_eq (tgt := 55) dX0_lineUp_32 (by decide) (fun q32 => ?_) (fun q32 => ?_)
    · have K := Kt q32
      refine td_aload_n 0 dX0_lineUp_55 rfl ?_
      refine gf_X0_25 rfl hk0 dX0_lineUp_56 ?_
      refine td_iload_n 2 dX0_lineUp_59 rfl ?_
      refine td_iload_n 1 dX0_lineUp_60 rfl ?_
      obtain ⟨e61, K⟩ := K
      refine td_iastc (j := (ix x2)) (kd_0_2 hk0) (by decide) e61 rfl dX0_lineUp_61 ?_
      refine td_iinc 1 (v := x1 + 1) (lv2 := [(0, .ref k0), (1, .int (x1 + 1)), (2, .int x2)]) dX0_lineUp_62 rfl (congrArg (x1 + ·) (by decide)) (by decide) rfl ?_
      refine td_goto (tgt := 2) dX0_lineUp_65 (by decide) ?_
      refine td_drop (lv2 := [(0, .ref k0), (1, .int (x1 + 1))]) [0, 1] rfl ?_
      exact K
    · have K := Kf q32
      refine td_aload_n 0 dX0_lineUp_35 rfl ?_
      refine gf_X0_25 rfl hk0 dX0_lineUp_36 ?_
      refine td_iload_n 2 dX0_lineUp_39 rfl ?_
      refine td_aload_n 0 dX0_lineUp_40 rfl ?_
      refine gf_X0_25 rfl hk0 dX0_lineUp_41 ?_
      refine td_iload_n 2 dX0_lineUp_44 rfl ?_
      refine td_iconst (v := 1) dX0_lineUp_45 (by decide) ?_
      refine td_isub dX0_lineUp_46 ?_
      refine td_ialdc (j := (ix (x2 - 1))) (kd_0_2 hk0) (by decide) e28 rfl dX0_lineUp_47 ?_
      obtain ⟨e48, K⟩ := K
      refine td_iastc (j := (ix x2)) (kd_0_2 hk0) (by decide) e48 rfl dX0_lineUp_48 ?_
      obtain ⟨H48, E48⟩ : ∃ z : td_H, z = hu h (k0 + 12) (ix x2) (h (k0 + 12) (ix (x2 - 1))) := ⟨_, rfl⟩
      have K := K H48 E48
      refine td_eqh E48 ?_
      refine td_iinc 2 (v := x2 + (-1)) (lv2 := [(0, .ref k0), (1, .int x1), (2, .int (x2 + (-1)))]) dX0_lineUp_49 rfl (congrArg (x2 + ·) (by decide)) (by decide) rfl ?_
      refine td_goto (tgt := 15) dX0_lineUp_52 (by decide) ?_
      exact K
def srtQ (c : nH) (p : Nat) (Q : Nat → Nat) : Prop := (∀ i, i < p → Q i < p) ∧ ∀ i j, i < j → j < p → bef c (Q i) (Q j)
theorem srt_ins {c : nH} {p u : Nat} {Q : Nat → Nat} (hw : ∀ i, i ≤ p → c 4 i < 120) (x : srtQ c p Q) (hu : u ≤ p) (h1 : ∀ i, u ≤ i → i < p → ahead c p (Q i) = true) (h2 : 0 < u → ¬ ahead c p (Q (u - 1)) = true) : srtQ c (p + 1) (fun i => if i < u then Q i else if i = u then p else Q (i - 1)) := by
  have lo : ∀ i, i < u → bef c (Q i) p := fun i hi => by
    have hi1 := x.1 i (by omega)
    have hu1 := x.1 (u - 1) (by omega)
    have n2 := h2 (by omega)
    rw [ahead_K (hw p (Nat.le_refl _)) (hw _ (by omega))] at n2
    rw [bef_K (hw _ (by omega)) (hw p (Nat.le_refl _))]
    rcases Nat.lt_or_ge i (u - 1) with y | y
    · have b := x.2 i (u - 1) y (by omega)
      rw [bef_K (hw _ (by omega)) (hw _ (by omega))] at b
      omega
    · have : i = u - 1 := by omega
      subst this
      omega
  have hi : ∀ i, u ≤ i → i < p → bef c p (Q i) := fun i h3 h4 => Or.inl (h1 i h3 h4)
  refine ⟨fun i hi' => ?_, fun i j hij hj => ?_⟩
  · show (if i < u then Q i else if i = u then p else Q (i - 1)) < p + 1
    split
    · have := x.1 i (by omega); omega
    · split
      · omega
      · have := x.1 (i - 1) (by omega); omega
  · show bef c (if i < u then Q i else if i = u then p else Q (i - 1)) (if j < u then Q j else if j = u then p else Q (j - 1))
    by_cases i1 : i < u
    · rw [if_pos i1]
      by_cases j1 : j < u
      · rw [if_pos j1]; exact x.2 i j hij (by omega)
      · rw [if_neg j1]
        by_cases j2 : j = u
        · rw [if_pos j2]; exact lo i i1
        · rw [if_neg j2]; exact x.2 i (j - 1) (by omega) (by omega)
    · rw [if_neg i1, if_neg (by omega : ¬ j < u), if_neg (by omega : ¬ j = u)]
      by_cases i2 : i = u
      · rw [if_pos i2]; exact hi (j - 1) (by omega) (by omega)
      · rw [if_neg i2]; exact x.2 (i - 1) (j - 1) (by omega) (by omega)
theorem c_lineUp {G : td_G} {d : Nat} {h : td_H} {k q : Nat} {c : nH} (hk : td_kd k = 0) (hq : td_kd q = 5) (hsep : q + 4 < k) (h5 : h k 5 = nI q) (hP : dP c q h) : td_C G (d + 1) mX0_lineUp [.ref k] h (fun r h' => r = none ∧ (∀ a b, a ≠ k + 12 → h' a b = h a b) ∧ ∃ Q, qOrd c Q ∧ ∀ i, i < c 1 0 → h' (k + 12) i = nI (Q i)) := by
  have hq107 := td_kd_lt hq (by decide)
  have hn := hP.1.n
  have hw : ∀ i, i < c 1 0 → c 4 i < 120 := fun i hi => (hP.1.p hi).2.2
  have fr : ∀ H : td_H, (∀ a b, a ≠ k + 12 → H a b = h a b) → ix (H k 5) = q ∧ H q 4 = nI (c 1 0) ∧ H k 5 = nI q ∧ dP c q H := fun H hH => by
    refine ⟨?_, ?_, ?_, hP.1, fun i hi => ?_, ?_, fun p hp => ?_⟩
    · rw [hH _ _ (by omega), h5]; exact ixn (by omega)
    · rw [hH _ _ (by omega)]; exact hP.2.2.1
    · rw [hH _ _ (by omega)]; exact h5
    · rw [hH _ _ (by omega)]; exact hP.2.1 i hi
    · rw [hH _ _ (by omega)]; exact hP.2.2.1
    · rw [hH _ _ (by omega), hH _ _ (by omega), hH _ _ (by omega)]; exact hP.2.2.2 p hp
  refine td_entry rfl (Nat.le_of_ble_eq_true rfl) rfl (gX0_lineUp_0 hk ?_)
  refine td_forH (c 1 0) (fun p => [(0, .ref k), (1, .int (nI p))]) (fun p h' => (∀ a b, a ≠ k + 12 → h' a b = h a b) ∧ ∃ Q, srtQ c p Q ∧ ∀ i, i < p → h' (k + 12) i = nI (Q i)) rfl ⟨fun _ _ _ => rfl, fun _ => 0, ⟨fun i hi => absurd hi (by omega), fun i j _ hj => absurd hj (by omega)⟩, fun i hi => absurd hi (by omega)⟩ (fun p hp h' hI ih => ?_) (fun h' hI => ?_)
  · obtain ⟨i0, Q, hs, hQ⟩ := hI
    obtain ⟨a1, a2, a3, a4⟩ := fr h' i0
    refine gX0_lineUp_2 hk ?_
    rw [a1, a2]
    refine ⟨hq, fun y => absurd (le_of y) (by omega), fun _ => ?_⟩
    -- place u
    have inner : ∀ u, u ≤ p → ∀ H : td_H, (∀ a b, a ≠ k + 12 → H a b = h a b) → (∀ i, i < u → H (k + 12) i = nI (Q i)) → (∀ i, u ≤ i → i < p → H (k + 12) (i + 1) = nI (Q i)) → (∀ i, u ≤ i → i < p → ahead c p (Q i) = true) → td_J G (d + 1) mX0_lineUp (fun r h' => r = none ∧ (∀ a b, a ≠ k + 12 → h' a b = h a b) ∧ ∃ Q, qOrd c Q ∧ ∀ i, i < c 1 0 → h' (k + 12) i = nI (Q i)) 15 [(0, .ref k), (1, .int (nI p)), (2, .int (nI u))] [] H := by
      have fin : ∀ u, u ≤ p → ∀ H : td_H, (∀ a b, a ≠ k + 12 → H a b = h a b) → (∀ i, i < u → H (k + 12) i = nI (Q i)) → (∀ i, u ≤ i → i < p → H (k + 12) (i + 1) = nI (Q i)) → (∀ i, u ≤ i → i < p → ahead c p (Q i) = true) → (0 < u → ¬ ahead c p (Q (u - 1)) = true) → vp_in (nI u) 12 ∧ td_J G (d + 1) mX0_lineUp (fun r h' => r = none ∧ (∀ a b, a ≠ k + 12 → h' a b = h a b) ∧ ∃ Q, qOrd c Q ∧ ∀ i, i < c 1 0 → h' (k + 12) i = nI (Q i)) 2 [(0, .ref k), (1, .int (nI p + 1))] [] (hu H (k + 12) (ix (nI u)) (nI p)) := by
        intro u hup H hH l1 l2 l3 l4
        refine ⟨vp_in_nI (by omega) (by decide), td_to (ih _ ⟨fun a b n => ?_, fun i => if i < u then Q i else if i = u then p else Q (i - 1), srt_ins (fun i hi => hw i (by omega)) hs hup l3 l4, fun i hi => ?_⟩) (by rw [nI_1]) rfl rfl⟩
        · rw [hu_app, if_neg (fun z => n z.1)]; exact hH a b n
        · show _ = nI (if i < u then Q i else if i = u then p else Q (i - 1))
          rw [hu_app, ixn (by omega)]
          by_cases y1 : i < u
          · rw [if_neg (by omega), if_pos y1]; exact l1 i y1
          · rw [if_neg y1]
            by_cases y2 : i = u
            · rw [if_pos ⟨rfl, y2⟩, if_pos y2]
            · rw [if_neg (fun z => y2 z.2), if_neg y2]
              have z := l2 (i - 1) (by omega) (by omega)
              rw [show i - 1 + 1 = i by omega] at z
              exact z
      intro u
      induction u with
      | zero =>
        intro hup H hH l1 l2 l3
        obtain ⟨f1, f2⟩ := fin _ hup H hH l1 l2 l3 (fun z => absurd z (by omega))
        exact gX0_lineUp_15 (c := c) (q := q) hk ⟨fun _ => ⟨f1, f2⟩, fun y => absurd (by decide) y⟩
      | succ u ihu =>
        intro hup H hH l1 l2 l3
        obtain ⟨b1, b2, b3, b4⟩ := fr H hH
        have hQu := hs.1 u (by omega)
        have e1 : nI (u + 1) - 1 = nI u := pk_sub (a := u + 1) (b := 1) (by omega)
        refine gX0_lineUp_15 (c := c) (q := q) hk ⟨fun y => absurd (le_of (b := 0) y) (by omega), fun _ => ?_⟩
        rw [e1, ixn (i := u) (by omega), l1 u (by omega), ixn (by omega), ixn (by omega)]
        refine ⟨vp_in_nI (by omega) (by decide), hq, b3, b4, vp_in_nI (by omega) (by decide), vp_in_nI (by omega) (by decide), hp, by omega, fun y => ?_, fun y => ?_⟩
        · have na := b2i_0.mp y
          obtain ⟨f1, f2⟩ := fin _ hup H hH l1 l2 l3 (fun _ => na)
          exact ⟨f1, f2⟩
        · have ya : ahead c p (Q u) = true := Decidable.byContradiction fun z => y (b2i_0.mpr z)
          refine ⟨vp_in_nI (by omega) (by decide), fun H48 E48 => ?_⟩
          rw [show ix (nI (u + 1)) = u + 1 from ixn (by omega)] at E48
          refine td_to (ihu (by omega) H48 (fun a b n => ?_) (fun i hi => ?_) (fun i h3 h4 => ?_) (fun i h3 h4 => ?_)) ?_ rfl rfl
          · rw [E48, hu_app, if_neg (fun z => n z.1)]; exact hH a b n
          · rw [E48, hu_app, if_neg (by omega)]; exact l1 i (by omega)
          · rw [E48, hu_app]
            by_cases z : i = u
            · rw [if_pos ⟨rfl, by omega⟩, z]
            · rw [if_neg (by omega)]; exact l2 i (by omega) h4
          · by_cases z : i = u
            · rw [z]; exact ya
            · exact l3 i (by omega) h4
          · rw [show nI (u + 1) + -1 = nI u from (Int32.sub_eq_add_neg _ _).symm.trans e1]
    exact inner p (Nat.le_refl p) h' i0 hQ (fun i h3 h4 => absurd h4 (by omega)) (fun i h3 h4 => absurd h4 (by omega))
  · obtain ⟨i0, Q, hs, hQ⟩ := hI
    obtain ⟨a1, a2, a3, a4⟩ := fr h' i0
    refine gX0_lineUp_2 hk ?_
    rw [a1, a2]
    exact ⟨hq, fun _ => ⟨rfl, i0, Q, hs, hQ⟩, fun y => absurd (nle_of y) (by omega)⟩
