/-! Door: a tick -/
theorem dV.come {c σ : nH} {k t : Nat} {h : td_H} (x : dV c σ k h) (hn : c 1 0 ≤ 12) (hw : ∀ p, p < c 1 0 → σ 0 p ≠ 0 → c 4 p < t) : dV c (sCome c t σ (c 1 0)) k (hu h k 10 (h k 10 ||| ms (cmM c t))) := by
  obtain ⟨⟨a1, a2, a3, a4, a5⟩, ⟨w, w1, w2⟩, ⟨d1, d2, d3, d4⟩, hP, hO, f1, f2, hF⟩ := x
  have r : ∀ v a b, ¬ (a = k ∧ b = 10) → hu h k 10 v a b = h a b := fun v a b n => by rw [hu_app, if_neg n]
  have e : ∀ a b, a ≠ 0 → sCome c t σ (c 1 0) a b = σ a b := fun a b n => by unfold sCome; rw [if_neg (fun z => n z.2.1)]
  have e0 : ∀ p, p < c 1 0 → (sCome c t σ (c 1 0) 0 p = 1 ∧ σ 0 p = 0 ∧ cmM c t p = true) ∨ (sCome c t σ (c 1 0) 0 p = σ 0 p ∧ cmM c t p = false) := by
    intro p hp
    by_cases z : c 4 p = t ∧ p ≠ c 5 0
    · left
      refine ⟨by unfold sCome; rw [if_pos ⟨hp, rfl, z⟩], Decidable.byContradiction fun y => ?_, by unfold cmM; simp [hp, z.1, z.2]⟩
      have := hw p hp y
      omega
    · right
      refine ⟨by unfold sCome; rw [if_neg (fun y => z y.2.2)], ?_⟩
      unfold cmM
      by_cases y : c 4 p = t
      · have : p = c 5 0 := Decidable.byContradiction fun v => z ⟨y, v⟩
        simp [this]
      · simp [y]
  have i2 : ∀ s, 2 ≤ s → inSt c (sCome c t σ (c 1 0)) s = inSt c σ s := fun s hs => funext fun p => by
    unfold inSt
    by_cases hp : p < c 1 0
    · rcases e0 p hp with y | y
      · rw [y.1, y.2.1]
        have n1 : ¬ 1 = s := by omega
        have n0 : ¬ 0 = s := by omega
        simp [n1, n0]
      · rw [y.1]
    · simp [hp]
  have iP : ∀ j, inP c (sCome c t σ (c 1 0)) j = inP c σ j := fun j => funext fun p => by
    unfold inP
    by_cases hp : p < c 1 0
    · rw [e 1 p (by decide)]
      rcases e0 p hp with y | y
      · rw [y.1, y.2.1]
        simp
      · rw [y.1]
    · simp [hp]
  have iu : ∀ i, used c (sCome c t σ (c 1 0)) i = used c σ i := fun i => by unfold used; rw [iP]
  have ip : pushS c (sCome c t σ (c 1 0)) = pushS c σ := by
    unfold pushS
    refine fb_sm_cong (fun q hq => ?_)
    rcases e0 q hq with y | y
    · rw [y.1, y.2.1]; rfl
    · rw [y.1]
  have eo : ∀ p, ¬ p < c 1 0 → sCome c t σ (c 1 0) 0 p = σ 0 p := fun p hp => by unfold sCome; rw [if_neg (fun z => hp z.1)]
  refine ⟨⟨?_, ?_, ?_, ?_, ?_⟩, ⟨w, ?_, fun q hq => ?_⟩, ⟨?_, ?_, ?_, ?_⟩, fun j hj => ⟨?_, ?_⟩, fun q hq hq2 => ?_, ?_, ?_, fun q hq => ⟨?_, ?_, ?_, ?_⟩⟩
  · rw [hu_app, if_pos ⟨rfl, rfl⟩, a1, ms_or]
    refine ms_ext (fun p _ => ?_)
    unfold inSt
    by_cases hp : p < c 1 0
    · rcases e0 p hp with y | y
      · rw [y.1, y.2.1, y.2.2]; simp [hp]
      · rw [y.1, y.2]; simp
    · unfold cmM; simp [hp]
  · rw [r _ _ _ (by omega), ip]; exact a2
  · rw [r _ _ _ (by omega), e 8 1 (by decide)]; exact a3
  · rw [r _ _ _ (by omega), e 8 2 (by decide)]; exact a4
  · rw [r _ _ _ (by omega), e 8 5 (by decide)]; exact a5
  · rw [r _ _ _ (by omega)]; exact w1
  · rw [e 6 q (by decide)]
    rcases e0 q hq with y | y
    · rw [y.1]
      have z := (w2 q hq).1
      rw [y.2.1] at z
      exact ⟨fun v => absurd (z v) (by decide), fun v => absurd v (by decide)⟩
    · rw [y.1]; exact w2 q hq
  · rw [r _ _ _ (by omega), e 8 0 (by decide)]; exact d1
  · rw [r _ _ _ (by omega), i2 2 (by decide)]; exact d2
  · rw [r _ _ _ (by omega), e 8 4 (by decide)]; exact d3
  · rw [r _ _ _ (by omega), e 8 3 (by decide)]; exact d4
  · rw [r _ _ _ (by omega), iP]; exact (hP j hj).1
  · rw [r _ _ _ (by omega), iu]; exact (hP j hj).2
  · rcases e0 q hq with y | y
    · rw [y.1] at hq2; exact absurd hq2 (by decide)
    · rw [y.1] at hq2
      rw [r _ _ _ (by omega), e 1 q (by decide)]
      exact hO q hq hq2
  · rw [r _ _ _ (by omega), i2 3 (by decide)]; exact f1
  · rw [r _ _ _ (by omega), f2]
    exact ms_ext (fun q _ => by rw [e 5 q (by decide)])
  · rw [r _ _ _ (by omega), (hF q hq).1, e 2 q (by decide)]
  · rw [r _ _ _ (by omega), (hF q hq).2.1]
    unfold qE
    rw [e 4 q (by decide)]
    by_cases hp : q < c 1 0
    · rcases e0 q hp with y | y
      · rw [y.1, y.2.1]; rfl
      · rw [y.1]
    · rw [eo q hp]
  · rw [r _ _ _ (by omega), (hF q hq).2.2.1, e 3 q (by decide)]
  · rw [r _ _ _ (by omega), (hF q hq).2.2.2]
    exact ms_ext (fun j _ => by rw [e (20 + q) j (by omega)])
theorem oI.s {c σ : nH} (o : oI c σ) : ∀ s, s < 2 → sOI c σ (σ 8 0) s := fun _ _ p hp h2 _ => o p hp h2
set_option maxRecDepth 20000 in
set_option maxHeartbeats 4000000 in
theorem gX0_pass_0 {G : td_G} {d : Nat} {Post : td_P} {q : Nat} {Q : Nat → Nat} {c σ : nH} {k0 : Nat} {x1 : Int32} {h : td_H} (hk0 : td_kd k0 = 0) (K : vp_in x1 120 ∧ (td_kd (ix ((hu h k0 10 ((h k0 10) ||| (h (k0 + 13) (ix x1)))) k0 5)) = 5 ∧ ((x1 < ((hu h k0 10 ((h k0 10) ||| (h (k0 + 13) (ix x1)))) (ix ((hu h k0 10 ((h k0 10) ||| (h (k0 + 13) (ix x1)))) k0 5) + 1) 8) → (dQ c Q (k0) q (hu h k0 10 ((h k0 10) ||| (h (k0 + 13) (ix x1)))) ∧ dV c σ (k0) (hu h k0 10 ((h k0 10) ||| (h (k0 + 13) (ix x1)))) ∧ sOK c σ ∧ (∀ h38 : td_H, (FrD (k0) (hu h k0 10 ((h k0 10) ||| (h (k0 + 13) (ix x1)))) h38 ∧ dV c (sSpeed c σ) (k0) h38) → (td_J G (d + 4) mX0_pass Post 43 [(0, .ref k0), (1, .int x1), (2, .int 0)] [] h38)))) ∧ (¬ x1 < ((hu h k0 10 ((h k0 10) ||| (h (k0 + 13) (ix x1)))) (ix ((hu h k0 10 ((h k0 10) ||| (h (k0 + 13) (ix x1)))) k0 5) + 1) 8) → (dQ c Q (k0) q (hu h k0 10 ((h k0 10) ||| (h (k0 + 13) (ix x1)))) ∧ dV c σ (k0) (hu h k0 10 ((h k0 10) ||| (h (k0 + 13) (ix x1)))) ∧ sOK c σ ∧ WI c (ix x1) σ ∧ (∀ h31 : td_H, (FrD (k0) (hu h k0 10 ((h k0 10) ||| (h (k0 + 13) (ix x1)))) h31 ∧ dV c (sFold c (ix x1) σ) (k0) h31) → (Post none (if (h31 k0 12) = 0 then if ((h31 (k0 + 1) 8) ||| (h31 k0 10)) = 0 then h31 else (hu h31 k0 14 ((h31 k0 14) + 1)) else h31 : td_H)))))))) : td_J G (d + 4) mX0_pass Post 0 [(0, .ref k0), (1, .int x1)] [] h := by
  refine td_aload_n 0 dX0_pass_0 rfl ?_
  refine td_dup dX0_pass_1 rfl ?_
  refine gf_X0_55 rfl hk0 dX0_pass_2 ?_
  refine td_aload_n 0 dX0_pass_5 rfl ?_
  refine gf_X0_29 rfl hk0 dX0_pass_6 ?_
  refine td_iload_n 1 dX0_pass_9 rfl ?_
  obtain ⟨e10, K⟩ := K
  refine td_ialdc (j := (ix x1)) (kd_0_3 hk0) (by decide) e10 rfl dX0_pass_10 ?_
  refine td_ior dX0_pass_11 ?_
  refine pf_X0_55 rfl hk0 dX0_pass_12 ?_
  refine td_iload_n 1 dX0_pass_15 rfl ?_
  refine td_aload_n 0 dX0_pass_16 rfl ?_
  refine gf_X0_38 rfl hk0 dX0_pass_17 ?_
  obtain ⟨e17, K⟩ := K
  refine gf_X0_111 rfl e17 dX0_pass_20 ?_
  refine td_bipush (v := 8) dX0_pass_23 (by decide) ?_
  refine td_ialdc (j := 8) (kd_5_0 e17) (by decide) (by unfold vp_in; decide) (by decide) dX0_pass_25 ?_
  obtain ⟨Kt, Kf⟩ := K
  refine td_icmp_lt (tgt := 37) dX0_pass_26 (by decide) (fun q26 => ?_) (fun q26 => ?_)
  · have K := Kt q26
    refine td_aload_n 0 dX0_pass_37 rfl ?_
    obtain ⟨e38_0, K⟩ := K
    obtain ⟨e38_1, K⟩ := K
    obtain ⟨e38_2, K⟩ := K
    refine cl_X0_117 rfl hk0 dX0_pass_38 (Nat.le_of_ble_eq_true rfl) (c_C_speed e38_0 e38_1 e38_2) ?_
    rintro _ h38 ⟨rfl, f38⟩
    have K := K h38 f38
    refine td_eqs (st2 := []) rfl ?_
    refine td_iconst (v := 0) dX0_pass_41 (by decide) ?_
    refine td_istore_n (lv2 := [(0, .ref k0), (1, .int x1), (2, .int 0)]) dX0_pass_42 (by decide) rfl ?_
    exact K
  · have K := Kf q26
    refine td_aload_n 0 dX0_pass_29 rfl ?_
    refine td_iload_n 1 dX0_pass_30 rfl ?_
    obtain ⟨e31_0, K⟩ := K
    obtain ⟨e31_1, K⟩ := K
    obtain ⟨e31_2, K⟩ := K
    obtain ⟨e31_3, K⟩ := K
    refine cl_X0_114 rfl hk0 dX0_pass_31 (Nat.le_of_ble_eq_true rfl) (c_C_folded x1 e31_0 e31_1 e31_2 e31_3 e10) ?_
    rintro _ h31 ⟨rfl, f31⟩
    have K := K h31 f31
    refine td_eqs (st2 := []) rfl ?_
    refine td_goto (tgt := 74) dX0_pass_34 (by decide) ?_
    refine td_aload_n 0 dX0_pass_74 rfl ?_
    refine gf_X0_61 rfl hk0 dX0_pass_75 ?_
    have KJ106 : td_J G (d + 4) mX0_pass Post 106 [(0, .ref k0), (1, .int x1)] [] (if (h31 k0 12) = 0 then if ((h31 (k0 + 1) 8) ||| (h31 k0 10)) = 0 then h31 else (hu h31 k0 14 ((h31 k0 14) + 1)) else h31 : td_H) := by
      exact td_return rfl dX0_pass_106 K
    refine td_if_ne (tgt := 106) dX0_pass_78 (by decide) (fun q78 => ?_) (fun q78 => ?_)
    · skip
      exact td_to KJ106 rfl rfl (by rw [show (if (h31 k0 12) = 0 then if ((h31 (k0 + 1) 8) ||| (h31 k0 10)) = 0 then h31 else (hu h31 k0 14 ((h31 k0 14) + 1)) else h31 : td_H) = _ from if_neg q78])
    · skip
      refine td_aload_n 0 dX0_pass_81 rfl ?_
      refine gf_X0_12 rfl hk0 dX0_pass_82 ?_
      refine gf_X0_127 rfl (kd_0_0 hk0) dX0_pass_85 ?_
      refine td_aload_n 0 dX0_pass_88 rfl ?_
      refine gf_X0_55 rfl hk0 dX0_pass_89 ?_
      refine td_ior dX0_pass_92 ?_
      refine td_if_eq (tgt := 106) dX0_pass_93 (by decide) (fun q93 => ?_) (fun q93 => ?_)
      · skip
        exact td_to KJ106 rfl rfl (by rw [show (if (h31 k0 12) = 0 then if ((h31 (k0 + 1) 8) ||| (h31 k0 10)) = 0 then h31 else (hu h31 k0 14 ((h31 k0 14) + 1)) else h31 : td_H) = _ from (if_pos q78).trans (if_pos q93)])
      · skip
        refine td_aload_n 0 dX0_pass_96 rfl ?_
        refine td_dup dX0_pass_97 rfl ?_
        refine gf_X0_67 rfl hk0 dX0_pass_98 ?_
        refine td_iconst (v := 1) dX0_pass_101 (by decide) ?_
        refine td_iadd dX0_pass_102 ?_
        refine pf_X0_67 rfl hk0 dX0_pass_103 ?_
        exact td_to KJ106 rfl rfl (by rw [show (if (h31 k0 12) = 0 then if ((h31 (k0 + 1) 8) ||| (h31 k0 10)) = 0 then h31 else (hu h31 k0 14 ((h31 k0 14) + 1)) else h31 : td_H) = _ from (if_pos q78).trans (if_neg q93)])
set_option maxRecDepth 20000 in
set_option maxHeartbeats 4000000 in
theorem gX0_pass_43 {G : td_G} {d : Nat} {Post : td_P} {q : Nat} {Q : Nat → Nat} {c σ σ65 : nH} {k0 : Nat} {x1 x2 : Int32} {h : td_H} (hk0 : td_kd k0 = 0) (K : ((h k0 12) ≤ x2 → (dQ c Q (k0) q h ∧ dV c σ (k0) h ∧ sOK c σ ∧ WI c (ix x1) σ ∧ vp_in 0 2 ∧ vp_in x1 120 ∧ (∀ h65 : td_H, (FrD (k0) h h65 ∧ dV c (sIn c (ix x1) (ix 0) 12 σ) (k0) h65) → (dQ c Q (k0) q h65 ∧ dV c σ65 (k0) h65 ∧ sOK c σ65 ∧ WI c (ix x1) σ65 ∧ vp_in 1 2 ∧ (∀ h71 : td_H, (FrD (k0) h65 h71 ∧ dV c (sIn c (ix x1) (ix 1) 12 σ65) (k0) h71) → (Post none (if (h71 k0 12) = 0 then if ((h71 (k0 + 1) 8) ||| (h71 k0 10)) = 0 then h71 else (hu h71 k0 14 ((h71 k0 14) + 1)) else h71 : td_H))))))) ∧ (¬ (h k0 12) ≤ x2 → (dQ c Q (k0) q h ∧ dV c σ (k0) h ∧ sOK c σ ∧ (∀ s, s < 2 → sOI c σ (σ 8 0) s) ∧ vp_in x1 120 ∧ (∀ h53 : td_H, (FrD (k0) h h53 ∧ dV c (sStep c (ix x1) σ) (k0) h53) → (td_J G (d + 4) mX0_pass Post 43 [(0, .ref k0), (1, .int x1), (2, .int (x2 + 1))] [] h53))))) : td_J G (d + 4) mX0_pass Post 43 [(0, .ref k0), (1, .int x1), (2, .int x2)] [] h := by
  refine td_iload_n 2 dX0_pass_43 rfl ?_
  refine td_aload_n 0 dX0_pass_44 rfl ?_
  refine gf_X0_61 rfl hk0 dX0_pass_45 ?_
  obtain ⟨Kt, Kf⟩ := K
  refine td_icmp_ge (tgt := 62) dX0_pass_48 (by decide) (fun q48 => ?_) (fun q48 => ?_)
  · have K := Kt q48
    refine td_aload_n 0 dX0_pass_62 rfl ?_
    refine td_iconst (v := 0) dX0_pass_63 (by decide) ?_
    refine td_iload_n 1 dX0_pass_64 rfl ?_
    obtain ⟨e65_0, K⟩ := K
    obtain ⟨e65_1, K⟩ := K
    obtain ⟨e65_2, K⟩ := K
    obtain ⟨e65_3, K⟩ := K
    obtain ⟨e65_4, K⟩ := K
    obtain ⟨e65_5, K⟩ := K
    refine cl_X0_123 rfl hk0 dX0_pass_65 (Nat.le_of_ble_eq_true rfl) (c_C_stepIn 0 x1 e65_0 e65_1 e65_2 e65_3 e65_4 e65_5) ?_
    rintro _ h65 ⟨rfl, f65⟩
    have K := K h65 f65
    refine td_eqs (st2 := []) rfl ?_
    refine td_aload_n 0 dX0_pass_68 rfl ?_
    refine td_iconst (v := 1) dX0_pass_69 (by decide) ?_
    refine td_iload_n 1 dX0_pass_70 rfl ?_
    obtain ⟨e71_0, K⟩ := K
    obtain ⟨e71_1, K⟩ := K
    obtain ⟨e71_2, K⟩ := K
    obtain ⟨e71_3, K⟩ := K
    obtain ⟨e71_4, K⟩ := K
    refine cl_X0_123 rfl hk0 dX0_pass_71 (Nat.le_of_ble_eq_true rfl) (c_C_stepIn 1 x1 e71_0 e71_1 e71_2 e71_3 e71_4 e65_5) ?_
    rintro _ h71 ⟨rfl, f71⟩
    have K := K h71 f71
    refine td_eqs (st2 := []) rfl ?_
    refine td_aload_n 0 dX0_pass_74 rfl ?_
    refine gf_X0_61 rfl hk0 dX0_pass_75 ?_
    have KJ106 : td_J G (d + 4) mX0_pass Post 106 [(0, .ref k0), (1, .int x1)] [] (if (h71 k0 12) = 0 then if ((h71 (k0 + 1) 8) ||| (h71 k0 10)) = 0 then h71 else (hu h71 k0 14 ((h71 k0 14) + 1)) else h71 : td_H) := by
      exact td_return rfl dX0_pass_106 K
    refine td_if_ne (tgt := 106) dX0_pass_78 (by decide) (fun q78 => ?_) (fun q78 => ?_)
    · skip
      refine td_drop (lv2 := [(0, .ref k0), (1, .int x1)]) [0, 1] rfl ?_
      exact td_to KJ106 rfl rfl (by rw [show (if (h71 k0 12) = 0 then if ((h71 (k0 + 1) 8) ||| (h71 k0 10)) = 0 then h71 else (hu h71 k0 14 ((h71 k0 14) + 1)) else h71 : td_H) = _ from if_neg q78])
    · skip
      refine td_aload_n 0 dX0_pass_81 rfl ?_
      refine gf_X0_12 rfl hk0 dX0_pass_82 ?_
      refine gf_X0_127 rfl (kd_0_0 hk0) dX0_pass_85 ?_
      refine td_aload_n 0 dX0_pass_88 rfl ?_
      refine gf_X0_55 rfl hk0 dX0_pass_89 ?_
      refine td_ior dX0_pass_92 ?_
      refine td_if_eq (tgt := 106) dX0_pass_93 (by decide) (fun q93 => ?_) (fun q93 => ?_)
      · skip
        refine td_drop (lv2 := [(0, .ref k0), (1, .int x1)]) [0, 1] rfl ?_
        exact td_to KJ106 rfl rfl (by rw [show (if (h71 k0 12) = 0 then if ((h71 (k0 + 1) 8) ||| (h71 k0 10)) = 0 then h71 else (hu h71 k0 14 ((h71 k0 14) + 1)) else h71 : td_H) = _ from (if_pos q78).trans (if_pos q93)])
      · skip
        refine td_aload_n 0 dX0_pass_96 rfl ?_
        refine td_dup dX0_pass_97 rfl ?_
        refine gf_X0_67 rfl hk0 dX0_pass_98 ?_
        refine td_iconst (v := 1) dX0_pass_101 (by decide) ?_
        refine td_iadd dX0_pass_102 ?_
        refine pf_X0_67 rfl hk0 dX0_pass_103 ?_
        refine td_drop (lv2 := [(0, .ref k0), (1, .int x1)]) [0, 1] rfl ?_
        exact td_to KJ106 rfl rfl (by rw [show (if (h71 k0 12) = 0 then if ((h71 (k0 + 1) 8) ||| (h71 k0 10)) = 0 then h71 else (hu h71 k0 14 ((h71 k0 14) + 1)) else h71 : td_H) = _ from (if_pos q78).trans (if_neg q93)])
  · have K := Kf q48
    refine td_aload_n 0 dX0_pass_51 rfl ?_
    refine td_iload_n 1 dX0_pass_52 rfl ?_
    obtain ⟨e53_0, K⟩ := K
    obtain ⟨e53_1, K⟩ := K
    obtain ⟨e53_2, K⟩ := K
    obtain ⟨e53_3, K⟩ := K
    obtain ⟨e53_4, K⟩ := K
    refine cl_X0_120 rfl hk0 dX0_pass_53 (Nat.le_of_ble_eq_true rfl) (c_C_step x1 e53_0 e53_1 e53_2 e53_3 e53_4) ?_
    rintro _ h53 ⟨rfl, f53⟩
    have K := K h53 f53
    refine td_eqs (st2 := []) rfl ?_
    refine td_iinc 2 (v := x2 + 1) (lv2 := [(0, .ref k0), (1, .int x1), (2, .int (x2 + 1))]) dX0_pass_56 rfl (congrArg (x2 + ·) (by decide)) (by decide) rfl ?_
    refine td_goto (tgt := 43) dX0_pass_59 (by decide) ?_
    exact K
theorem c_C_pass {G : td_G} {d : Nat} {h : td_H} {k q : Nat} {c : nH} {Q : Nat → Nat} (x1 : Int32) (hQ : dQ c Q k q h) (hV : dV c (sRun c (ix x1)) k h) (h1 : vp_in x1 120) : td_C G (d + 4) mX0_pass [.ref k, .int x1] h (fun r h' => r = none ∧ FrD k h h' ∧ dV c (sRun c (ix x1 + 1)) k h') := by
  obtain ⟨t, ht, rfl⟩ := vp_in_of h1 (by decide)
  have et : ix (nI t) = t := ixn (by omega)
  rw [et] at hV
  rw [et]
  have hk := hQ.1
  have hwf := hQ.2.2.2.2.1.1
  have hn := hwf.n
  have hk107 := td_kd_lt hk (by decide)
  have hi := (run_I hwf t).come t (c 1 0)
  have hW : WI c t (sCome c t (sRun c t) (c 1 0)) := WI.come (run_wi c hn t)
  have hrun : sRun c (t + 1) = sStill c (sMove c t (sCome c t (sRun c t) (c 1 0))) := rfl
  have hV0 := hV.come hn (run_wi c hn t)
  have hcm : h (k + 13) t = ms (cmM c t) := hQ.2.2.2.2.2.2.2.2.2.2.2.1 t ht
  generalize sCome c t (sRun c t) (c 1 0) = σC at hi hW hrun hV0
  have fr : FrD k h (hu h k 10 (h k 10 ||| ms (cmM c t))) := (FrD.rf k h).put (by unfold dynP; omega) _
  have hQ0 := fr.Q hQ
  have e5 : ix ((hu h k 10 (h k 10 ||| ms (cmM c t))) k 5) = q := by rw [hQ0.2.2.2.1]; exact ixn (by have := hQ0.2.2.1; omega)
  have e8 : (hu h k 10 (h k 10 ||| ms (cmM c t))) (q + 1) 8 = nI (c 0 8) := hQ0.2.2.2.2.1.2.1 8 (by decide)
  have h8 := hwf.2.2.2.2.2.2.2.2.1
  -- behind a move: an idle tick is counted
  have still : ∀ (σM : nH) (h3 : td_H), FrD k h h3 → dV c σM k h3 → σM 8 1 ≤ 3 → sStill c σM = sRun c (t + 1) → (none : Option Value) = none ∧ FrD k h (if (h3 k 12) = 0 then if ((h3 (k + 1) 8) ||| (h3 k 10)) = 0 then h3 else (hu h3 k 14 ((h3 k 14) + 1)) else h3 : td_H) ∧ dV c (sRun c (t + 1)) k (if (h3 k 12) = 0 then if ((h3 (k + 1) 8) ||| (h3 k 10)) = 0 then h3 else (hu h3 k 14 ((h3 k 14) + 1)) else h3 : td_H) := by
    intro σM h3 hF3 hV3 hs3 he
    rw [← he]
    have same : ∀ v, (if σM 8 1 = 0 ∧ exB (fun p => decide (σM 0 p = 1) || decide (σM 0 p = 2)) (c 1 0) = true then 1 else 0) = v → sStill c σM = nu σM 8 5 (σM 8 5 + v) := fun v e => by unfold sStill; rw [e]
    have id5 : nu σM 8 5 (σM 8 5 + 0) = σM := by
      funext a b
      rw [nu_app]
      split
      · rename_i z; rw [z.1, z.2]; rfl
      · rfl
    have ex := exB_ms c σM hn
    rw [hV3.1.2.2.1, hV3.2.2.1.2.1, hV3.1.1, show (ms (inSt c σM 2) ||| ms (inSt c σM 1)) = (ms (inSt c σM 1) ||| ms (inSt c σM 2)) by rw [ms_or, ms_or]; exact ms_ext (fun i _ => Bool.or_comm _ _)]
    by_cases q1 : σM 8 1 = 0
    · rw [if_pos (show nI (σM 8 1) = 0 by rw [q1]; rfl)]
      by_cases q2 : exB (fun p => decide (σM 0 p = 1) || decide (σM 0 p = 2)) (c 1 0) = true
      · rw [if_neg (fun z => by rw [ex.mp z] at q2; cases q2), same 1 (if_pos ⟨q1, q2⟩)]
        refine ⟨rfl, hF3.put (by unfold dynP; omega) _, ?_⟩
        refine hV3.sc (fun a b ha => by rw [nu_app, if_neg (fun z => ha z.1)]) (fun a b n => by rw [hu_app, if_neg (by omega)]) ?_ ?_ ?_ ?_ ?_ ?_
        · rw [hu_app, if_neg (by omega), nu_app, if_neg (by omega)]; exact hV3.2.2.1.1
        · rw [hu_app, if_neg (by omega), nu_app, if_neg (by omega)]; exact hV3.1.2.2.1
        · rw [hu_app, if_neg (by omega), nu_app, if_neg (by omega)]; exact hV3.1.2.2.2.1
        · rw [hu_app, if_neg (by omega), nu_app, if_neg (by omega)]; exact hV3.2.2.1.2.2.2
        · rw [hu_app, if_neg (by omega), nu_app, if_neg (by omega)]; exact hV3.2.2.1.2.2.1
        · rw [hu_app, if_pos ⟨rfl, rfl⟩, nu_app, if_pos ⟨rfl, rfl⟩, hV3.1.2.2.2.2, nI_1]
      · rw [if_pos (ex.mpr (by simpa using q2)), same 0 (if_neg (fun z => q2 z.2)), id5]
        exact ⟨rfl, hF3, hV3⟩
    · rw [if_neg (show ¬ nI (σM 8 1) = 0 from fun z => q1 (eq_of (b := 0) z)), same 0 (if_neg (fun z => q1 z.1)), id5]
      exact ⟨rfl, hF3, hV3⟩
  refine td_entry rfl (Nat.le_of_ble_eq_true rfl) rfl (gX0_pass_0 (c := c) (σ := σC) (Q := Q) (q := q) hk ⟨h1, ?_⟩)
  rw [et, hcm, e5, e8]
  refine ⟨hQ0.2.1, fun y => ?_, fun y => ?_⟩
  · have y8 := lt_of y
    have hmv : sMove c t σC = sIn c t 1 12 (sIn c t 0 12 (sSteps c t (sSpeed c σC 8 1) (sSpeed c σC))) := by unfold sMove; rw [if_neg (by omega)]
    rw [hmv] at hrun
    refine ⟨hQ0, hV0, hi.1, fun h38 hh38 => ?_⟩
    have fr38 := fr.tr hh38.1
    have hV38 := hh38.2
    have hi2 := hi.speed hwf
    have hW2 : WI c t (sSpeed c σC) := hW.speed
    generalize sSpeed c σC = σS at hV38 hi2 hW2 hrun
    have hs3 := hi2.1.2.1
    refine td_forH (σS 8 1) (fun i => [(0, .ref k), (1, .int (nI t)), (2, .int (nI i))]) (fun i h' => FrD k h h' ∧ dV c (sSteps c t i σS) k h') rfl ⟨fr38, hV38⟩ (fun i hi' h4 hP4 ih4 => ?_) (fun h4 hP4 => ?_)
    · obtain ⟨hF4, hV4⟩ := hP4
      have e12 := hV4.1.2.2.1
      rw [sSteps_81] at e12
      have hi4 := sI.steps hwf t i hi2
      refine gX0_pass_43 (c := c) (σ := sSteps c t i σS) (σ65 := s0) (Q := Q) (q := q) hk ⟨fun y => absurd (le_of (by rw [e12] at y; exact y)) (by omega), fun _ => ⟨hF4.Q hQ, hV4, hi4.1, hi4.2.s, h1, fun h5 hh5 => ?_⟩⟩
      rw [et] at hh5
      exact td_to (ih4 h5 ⟨hF4.tr hh5.1, hh5.2⟩) (by rw [nI_1]) rfl rfl
    · obtain ⟨hF4, hV4⟩ := hP4
      have e12 := hV4.1.2.2.1
      rw [sSteps_81] at e12
      have hi4 := sI.steps hwf t (σS 8 1) hi2
      have hi5 := sI.sIn hwf t 0 12 hi4
      have hi6 := sI.sIn hwf t 1 12 hi5
      have hW4 : WI c t (sSteps c t (σS 8 1) σS) := WI.steps _ hW2
      refine gX0_pass_43 (c := c) (σ := sSteps c t (σS 8 1) σS) (σ65 := sIn c t 0 12 (sSteps c t (σS 8 1) σS)) (Q := Q) (q := q) hk ⟨fun _ => ?_, fun y => absurd (nle_of (by rw [e12] at y; exact y)) (by omega)⟩
      rw [et]
      refine ⟨hF4.Q hQ, hV4, hi4.1, hW4, by unfold vp_in; decide, h1, fun h5 hh5 => ?_⟩
      rw [show ix 0 = 0 by decide] at hh5
      have fr5 := hF4.tr hh5.1
      refine ⟨fr5.Q hQ, hh5.2, hi5.1, WI.sIn hn 12 _ hW4, by unfold vp_in; decide, fun h6 hh6 => ?_⟩
      rw [show ix 1 = 1 by decide] at hh6
      exact still _ h6 (fr5.tr hh6.1) hh6.2 hi6.1.2.1 hrun.symm
  · have y8 := nlt_of y
    have hmv : sMove c t σC = sFold c t σC := by unfold sMove; rw [if_pos y8]
    rw [hmv] at hrun
    refine ⟨hQ0, hV0, hi.1, hW, fun h31 hh => ?_⟩
    exact still _ h31 (fr.tr hh.1) hh.2 (hi.fold t).1.2.1 hrun.symm
