/-! What a run keeps to -/
def oI (c σ : nH) : Prop := ∀ p, p < c 1 0 → σ 0 p = 2 → (opn c (σ 1 p) (1 - c 2 p) (σ 8 0) = true ↔ (c 3 p = 5 ∧ σ 6 p = 1))
def sI (c σ : nH) : Prop := sOK c σ ∧ oI c σ
theorem used_sub {c σ τ : nH} (h : ∀ p, p < c 1 0 → τ 0 p = 2 → σ 0 p = 2 ∧ τ 1 p = σ 1 p) (i : Nat) : used c τ i ≤ used c σ i := by
  unfold used
  refine fb_sm_le (fun q hq => ?_)
  show (if inP c τ i q = true then szk (c 3 q) else 0) ≤ (if inP c σ i q = true then szk (c 3 q) else 0)
  by_cases y : inP c τ i q = true
  · have z : inP c σ i q = true := by
      unfold inP at y ⊢
      simp at y
      obtain ⟨y1, y2, y3⟩ := y
      obtain ⟨z1, z2⟩ := h q hq y2
      simp [y1, z1, ← z2, y3]
    rw [if_pos y, if_pos z]
    exact Nat.le_refl _
  · rw [if_neg y]
    exact Nat.zero_le _
theorem sI.of {c σ τ : nH} (x : sI c σ) (h0 : τ 8 0 = σ 8 0) (h1 : τ 8 1 ≤ 3) (h2 : τ 8 2 ≤ 9) (h : ∀ p, p < c 1 0 → τ 0 p < 4 ∧ τ 6 p = σ 6 p ∧ (τ 0 p = 2 → σ 0 p = 2 ∧ τ 1 p = σ 1 p)) : sI c τ := by
  obtain ⟨⟨a, b, e, f, g⟩, o⟩ := x
  refine ⟨⟨by rw [h0]; exact a, h1, h2, fun i hi => Nat.le_trans (used_sub (fun p hp => (h p hp).2.2) i) (f i hi), fun p hp => ?_⟩, fun p hp hp2 => ?_⟩
  · obtain ⟨z1, z2, z3⟩ := h p hp
    exact ⟨z1, by rw [z2]; exact (g p hp).2.1, fun w => by rw [(z3 w).2]; exact (g p hp).2.2 (z3 w).1⟩
  · obtain ⟨z1, z2, z3⟩ := h p hp
    rw [(z3 hp2).2, h0, z2]
    exact o p hp (z3 hp2).1
theorem sI.step {c σ : nH} (x : sI c σ) (hwf : wfC c) (t : Nat) : sI c (sStep c t σ) := by
  have u := sTurn_8 σ
  have okT : sOK c (sTurn σ) := by
    obtain ⟨⟨a, b, e, f, g⟩, o⟩ := x
    refine ⟨by rw [u.1]; omega, by rw [u.2.1]; exact b, by rw [u.2.2.1]; exact e, fun i hi => ?_, fun p hp => ?_⟩
    · exact Nat.le_trans (used_sub (fun p _ z => by rw [sTurn_0 _ _ _ (by decide)] at z; exact ⟨z, sTurn_0 _ _ _ (by decide)⟩) i) (f i hi)
    · rw [sTurn_0 _ _ _ (by decide), sTurn_0 _ _ _ (by decide), sTurn_0 _ _ _ (by decide)]
      exact g p hp
  have okO := (okT.ob t 0).ob t 1
  rw [sOB_both c t (sTurn σ) (fun p hp => (hwf.p hp).1)] at okO
  have e : ∀ a b, ¬ (a = 8 ∧ b = 3) → sStep c t σ a b = sOut c t (sTurn σ) (c 1 0) a b := fun a b n => by
    unfold sStep
    rw [nu_app, if_neg n]
  refine ⟨?_, fun p hp hp2 => ?_⟩
  · obtain ⟨a, b, e', f, g⟩ := okO
    refine ⟨by rw [e _ _ (by omega)]; exact a, by rw [e _ _ (by omega)]; exact b, by rw [e _ _ (by omega)]; exact e', fun i hi => ?_, fun p hp => ?_⟩
    · exact Nat.le_trans (used_sub (fun p _ z => by rw [e _ _ (by omega)] at z; exact ⟨z, e _ _ (by omega)⟩) i) (f i hi)
    · rw [e _ _ (by omega), e _ _ (by omega), e _ _ (by omega)]
      exact g p hp
  · rw [e _ _ (by omega), sOut_0r] at hp2
    rw [e _ _ (by omega), e _ _ (by omega), e _ _ (by omega), sOut_8]
    have hg : ¬ goesO c (sTurn σ) p = true := fun z => by rw [if_pos ⟨hp, z⟩] at hp2; cases hp2
    rw [if_neg (fun z => hg z.2)] at hp2
    have e1 : sOut c t (sTurn σ) (c 1 0) 1 p = sTurn σ 1 p := by unfold sOut; rw [if_neg (by omega), if_neg (by omega), if_neg (by omega)]
    have e6 : sOut c t (sTurn σ) (c 1 0) 6 p = dazN c (sTurn σ) p := by unfold sOut; rw [if_neg (by omega), if_neg (by omega), if_pos ⟨hp, rfl, hp2⟩]
    rw [e1, e6]
    have h6 := (okT.2.2.2.2 p hp).2.1
    unfold goesO atM at hg
    unfold dazN
    by_cases y : opn c (sTurn σ 1 p) (1 - c 2 p) (sTurn σ 8 0) = true
    · simp [hp2, y] at hg
      rcases (by omega : sTurn σ 6 p = 0 ∨ sTurn σ 6 p = 1) with z | z <;> simp [y, hg.1, z]
    · have y2 : opn c (sTurn σ 1 p) (1 - c 2 p) (sTurn σ 8 0) = false := by simpa using y
      rw [y2]
      rcases (by omega : sTurn σ 6 p = 0 ∨ sTurn σ 6 p = 1 ∨ sTurn σ 6 p = 2) with z | z | z <;> simp [z]
theorem sI.steps {c : nH} (hwf : wfC c) (t : Nat) : ∀ k {σ : nH}, sI c σ → sI c (sSteps c t k σ)
  | 0, _, x => x
  | k + 1, _, x => (sI.steps hwf t k x).step hwf t
/-- no part is open at both sides -/
theorem one_open {L i t : Nat} (hL : L = 3 ∨ L = 4) (hi : i < 4) (ht : t < 12) : share L i 0 t = 0 ∨ share L i 1 t = 0 := by
  have z : ∀ i, i < 4 → ∀ t, t < 12 → (share 3 i 0 t = 0 ∨ share 3 i 1 t = 0) ∧ (share 4 i 0 t = 0 ∨ share 4 i 1 t = 0) := by decide +kernel
  rcases hL with y | y <;> rw [y]
  · exact (z i hi t ht).1
  · exact (z i hi t ht).2
theorem sI.enter {c σ : nH} (x : sI c σ) (hwf : wfC c) (t : Nat) {p i : Nat} (hp : p < c 1 0) (h1 : σ 0 p = 1) (hi : i < c 0 0) (hu : used c σ i + szk (c 3 p) ≤ c 0 2) (ho : opn c i (c 2 p) (σ 8 0) = true) : sI c (sEnter c t σ p i) := by
  refine ⟨x.1.enter hwf t hp h1 hi hu, fun q hq hq2 => ?_⟩
  obtain ⟨m0, m1, -, -, -, -, m6⟩ := sEn_p c t σ p i (c 1 0)
  rw [sEnter_r _ _ _ _ _ 0 _ (Or.inl rfl)] at hq2
  rw [sEnter_r _ _ _ _ _ 1 _ (Or.inr (Or.inl rfl)), sEnter_r _ _ _ _ _ 6 _ (Or.inr (Or.inr rfl)), (sEnter_8 c t σ p i).1]
  by_cases y : q = p
  · subst y
    rw [m1, m6]
    have hL := hwf.1
    have h2 := (hwf.p hp).1
    have hO := hwf.2.1
    have z := one_open (L := c 0 0) (i := i) (t := σ 8 0) (by omega) (by omega) x.1.1
    constructor
    · intro w
      unfold opn at ho w
      simp at ho w
      rcases (by omega : c 2 q = 0 ∨ c 2 q = 1) with v | v <;> rw [v] at ho w
      · rw [show 1 - 0 = 1 from rfl] at w; omega
      · rw [show 1 - 1 = 0 from rfl] at w; omega
    · intro w; exact absurd w.2 (by decide)
  · rw [sEn_o _ _ _ _ _ _ _ _ (by decide) y] at hq2
    rw [sEn_o _ _ _ _ _ _ _ _ (by decide) y, sEn_o _ _ _ _ _ _ _ _ (by decide) y]
    exact x.2 q hq hq2
theorem may_use {c σ : nH} {p i : Nat} (h : mayP c σ p i = true) : used c σ i + szk (c 3 p) ≤ c 0 2 ∧ opn c i (c 2 p) (σ 8 0) = true := by
  unfold mayP at h
  simp at h
  have := szk_pos (c 3 p)
  exact ⟨by omega, h.1⟩
theorem sI.sIn {c : nH} (hwf : wfC c) (t s : Nat) : ∀ m {σ : nH}, sI c σ → sI c (sIn c t s m σ)
  | 0, _, x => x
  | m + 1, σ, x => by
    rw [sIn_succ]
    split
    · exact x
    · split
      · exact x
      · rename_i y1 y2
        have hl := fstW_lt c σ s (c 1 0)
        have hst := fstW_st c σ s (c 1 0) y1 hwf.n
        have hm := prt_may y2
        obtain ⟨u1, u2⟩ := may_use hm.2
        exact sI.sIn hwf t s m (x.enter hwf t (by omega) hst.1 hm.1 u1 u2)
theorem sI.walk {c σ : nH} (x : sI c σ) (t s : Nat) : sI c (sWalk c t s σ) := by
  unfold sWalk
  split
  · exact x
  · generalize fstW c σ s (c 1 0) = f
    refine x.of (by simp [sThru, nu_app]) (by simpa [sThru, nu_app] using x.1.2.1) (by simpa [sThru, nu_app] using x.1.2.2.1) (fun p hp => ?_)
    by_cases z : p = f
    · subst z
      simp [sThru, nu_app]
    · simp [sThru, nu_app, z]
      exact (x.1.2.2.2.2 p hp).1
theorem sI.fold {c σ : nH} (x : sI c σ) (t : Nat) : sI c (sFold c t σ) := by
  unfold sFold
  refine sI.walk (sI.walk (sI.walk (sI.walk ?_ _ _) _ _) _ _) _ _
  refine x.of (by simp [sAllOut, nu_app]) (by simp [sAllOut, nu_app]) (by simp [sAllOut, nu_app]) (fun p hp => ?_)
  have g := (x.1.2.2.2.2 p hp).1
  by_cases z : σ 0 p = 2
  · simp [sAllOut, nu_app, hp, z]
  · simp [sAllOut, nu_app, z, g]
theorem sI.speed {c σ : nH} (x : sI c σ) (hwf : wfC c) : sI c (sSpeed c σ) := by
  have g := hwf.2.2.2.2.2.1
  have s1 := x.1.2.1
  have s2 := x.1.2.2.1
  unfold sSpeed
  split
  · exact x.of (by simp [nu_app]) (by simp [nu_app]) (by simp [nu_app]; omega) (fun p hp => by simp [nu_app]; exact (x.1.2.2.2.2 p hp).1)
  · split
    · rename_i y
      exact x.of (by simp [nu_app]) (by simp [nu_app]; omega) (by simpa [nu_app] using s2) (fun p hp => by simp [nu_app]; exact (x.1.2.2.2.2 p hp).1)
    · split
      · exact x.of (by simp [nu_app]) (by simp [nu_app]; omega) (by simpa [nu_app] using s2) (fun p hp => by simp [nu_app]; exact (x.1.2.2.2.2 p hp).1)
      · exact x
theorem sI.move {c σ : nH} (x : sI c σ) (hwf : wfC c) (t : Nat) : sI c (sMove c t σ) := by
  unfold sMove
  split
  · exact x.fold t
  · exact sI.sIn hwf t 1 12 (sI.sIn hwf t 0 12 (sI.steps hwf t _ (x.speed hwf)))
theorem sI.come {c σ : nH} (x : sI c σ) (t n : Nat) : sI c (sCome c t σ n) := by
  refine x.of (by simp [sCome]) (by simpa [sCome] using x.1.2.1) (by simpa [sCome] using x.1.2.2.1) (fun p hp => ?_)
  have g := (x.1.2.2.2.2 p hp).1
  by_cases z : p < n ∧ 0 = 0 ∧ c 4 p = t ∧ p ≠ c 5 0
  · have e : sCome c t σ n 0 p = 1 := by unfold sCome; rw [if_pos z]
    rw [e]
    exact ⟨by decide, by simp [sCome], fun w => absurd w (by decide)⟩
  · have e : sCome c t σ n 0 p = σ 0 p := by unfold sCome; rw [if_neg z]
    rw [e]
    exact ⟨g, by simp [sCome], fun w => ⟨w, by simp [sCome]⟩⟩
theorem sStill_8 (c σ : nH) (b : Nat) (h : b ≠ 5) : sStill c σ 8 b = σ 8 b := by
  unfold sStill
  rw [nu_app, if_neg (fun z => h z.2)]
theorem sI.still {c σ : nH} (x : sI c σ) : sI c (sStill c σ) :=
  x.of (sStill_8 c σ 0 (by decide)) (by rw [sStill_8 c σ 1 (by decide)]; exact x.1.2.1) (by rw [sStill_8 c σ 2 (by decide)]; exact x.1.2.2.1) (fun p hp => by
    rw [sStill_0 c σ 0 p (by decide), sStill_0 c σ 6 p (by decide), sStill_0 c σ 1 p (by decide)]
    exact ⟨(x.1.2.2.2.2 p hp).1, rfl, fun z => ⟨z, rfl⟩⟩)
theorem used_0 (c : nH) (i : Nat) : used c s0 i = 0 := by
  unfold used
  have : fb_sm (fun p => if inP c s0 i p = true then szk (c 3 p) else 0) (c 1 0) = fb_sm (fun _ => 0) (c 1 0) := fb_sm_cong (fun p _ => by
    have : inP c s0 i p = false := by unfold inP; rw [show s0 0 p = 0 from rfl]; simp
    rw [this]; rfl)
  rw [this, fb_sm_const, Nat.mul_zero]
theorem sI_0 (c : nH) : sI c s0 := by
  refine ⟨⟨by decide, by decide, by decide, fun i _ => ?_, fun p _ => ⟨(by decide : 0 < 4), (by decide : 0 < 3), fun z => absurd z (by decide : ¬ 0 = 2)⟩⟩, fun p _ z => absurd z (by decide : ¬ 0 = 2)⟩
  rw [used_0]; exact Nat.zero_le _
theorem run_I {c : nH} (hwf : wfC c) : ∀ t, sI c (sRun c t)
  | 0 => sI_0 c
  | t + 1 => (((run_I hwf t).come t (c 1 0)).move hwf t).still
/-! Door: a tick of folded leaves -/
theorem sLv_all (t : Nat) (c σ : nH) : sLv t σ (inSt c σ 2) (c 1 0) = sAllOut t σ (c 1 0) := by
  funext a b
  unfold sLv sAllOut inSt
  by_cases hb : b < c 1 0
  · by_cases h2 : σ 0 b = 2
    · simp [hb, h2]
    · simp [h2]
  · simp [hb]
set_option maxRecDepth 20000 in
set_option maxHeartbeats 4000000 in
theorem gX0_passFolded_0 {G : td_G} {d : Nat} {Post : td_P} {q : Nat} {S : Nat → Bool} {Q : Nat → Nat} {c σ σ19 σ25 : nH} {k0 : Nat} {x1 : Int32} {h : td_H} (hk0 : td_kd k0 = 0) (K : dQ c Q (k0) q (hu (hu h k0 12 0) k0 13 0) ∧ dV c σ (k0) (hu (hu h k0 12 0) k0 13 0) ∧ sOK c σ ∧ ((hu (hu h k0 12 0) k0 13 0) (k0 + 1) 8) = ms S ∧ vp_in x1 120 ∧ (∀ p, S p = true → p < c 1 0 ∧ σ 0 p = 2) ∧ (∀ h19 : td_H, (FrD (k0) (hu (hu h k0 12 0) k0 13 0) h19 ∧ dV c (sLv (ix x1) σ S (c 1 0)) (k0) h19) → (dQ c Q (k0) q h19 ∧ dV c σ19 (k0) h19 ∧ WI c (ix x1) σ19 ∧ vp_in 0 2 ∧ (∀ h25 : td_H, (FrD (k0) h19 h25 ∧ dV c (sWk c (ix x1) (ix 0) 2 σ19) (k0) h25) → (dQ c Q (k0) q h25 ∧ dV c σ25 (k0) h25 ∧ WI c (ix x1) σ25 ∧ vp_in 1 2 ∧ (∀ h31 : td_H, (FrD (k0) h25 h31 ∧ dV c (sWk c (ix x1) (ix 1) 2 σ25) (k0) h31) → (Post none h31))))))) : td_J G (d + 2) mX0_passFolded Post 0 [(0, .ref k0), (1, .int x1)] [] h := by
  refine td_aload_n 0 dX0_passFolded_0 rfl ?_
  refine td_iconst (v := 0) dX0_passFolded_1 (by decide) ?_
  refine pf_X0_61 rfl hk0 dX0_passFolded_2 ?_
  refine td_aload_n 0 dX0_passFolded_5 rfl ?_
  refine td_iconst (v := 0) dX0_passFolded_6 (by decide) ?_
  refine pf_X0_64 rfl hk0 dX0_passFolded_7 ?_
  refine td_aload_n 0 dX0_passFolded_10 rfl ?_
  refine td_aload_n 0 dX0_passFolded_11 rfl ?_
  refine gf_X0_12 rfl hk0 dX0_passFolded_12 ?_
  refine gf_X0_127 rfl (kd_0_0 hk0) dX0_passFolded_15 ?_
  refine td_iload_n 1 dX0_passFolded_18 rfl ?_
  obtain ⟨e19_0, K⟩ := K
  obtain ⟨e19_1, K⟩ := K
  obtain ⟨e19_2, K⟩ := K
  obtain ⟨e19_3, K⟩ := K
  obtain ⟨e19_4, K⟩ := K
  obtain ⟨e19_5, K⟩ := K
  refine cl_X0_147 rfl hk0 dX0_passFolded_19 (Nat.le_of_ble_eq_true rfl) (c_endInside S ((hu (hu h k0 12 0) k0 13 0) (k0 + 1) 8) x1 e19_0 e19_1 e19_2 e19_3 e19_4 e19_5) ?_
  rintro _ h19 ⟨rfl, f19⟩
  have K := K h19 f19
  refine td_eqs (st2 := []) rfl ?_
  refine td_aload_n 0 dX0_passFolded_22 rfl ?_
  refine td_iconst (v := 0) dX0_passFolded_23 (by decide) ?_
  refine td_iload_n 1 dX0_passFolded_24 rfl ?_
  obtain ⟨e25_0, K⟩ := K
  obtain ⟨e25_1, K⟩ := K
  obtain ⟨e25_2, K⟩ := K
  obtain ⟨e25_3, K⟩ := K
  refine cl_X0_203 rfl hk0 dX0_passFolded_25 (Nat.le_of_ble_eq_true rfl) (c_C_walk 0 x1 e25_0 e25_1 e25_2 e25_3 e19_4) ?_
  rintro _ h25 ⟨rfl, f25⟩
  have K := K h25 f25
  refine td_eqs (st2 := []) rfl ?_
  refine td_aload_n 0 dX0_passFolded_28 rfl ?_
  refine td_iconst (v := 1) dX0_passFolded_29 (by decide) ?_
  refine td_iload_n 1 dX0_passFolded_30 rfl ?_
  obtain ⟨e31_0, K⟩ := K
  obtain ⟨e31_1, K⟩ := K
  obtain ⟨e31_2, K⟩ := K
  obtain ⟨e31_3, K⟩ := K
  refine cl_X0_203 rfl hk0 dX0_passFolded_31 (Nat.le_of_ble_eq_true rfl) (c_C_walk 1 x1 e31_0 e31_1 e31_2 e31_3 e19_4) ?_
  rintro _ h31 ⟨rfl, f31⟩
  have K := K h31 f31
  refine td_eqs (st2 := []) rfl ?_
  exact td_return rfl dX0_passFolded_34 K
theorem c_C_folded {G : td_G} {d : Nat} {h : td_H} {k q : Nat} {c σ : nH} {Q : Nat → Nat} (x1 : Int32) (hQ : dQ c Q k q h) (hV : dV c σ k h) (ok : sOK c σ) (hW : WI c (ix x1) σ) (h1 : vp_in x1 120) : td_C G (d + 2) mX0_passFolded [.ref k, .int x1] h (fun r h' => r = none ∧ FrD k h h' ∧ dV c (sFold c (ix x1) σ) k h') := by
  have hk := hQ.1
  have hn := hQ.2.2.2.2.1.1.n
  have fr : FrD k h (hu (hu h k 12 0) k 13 0) := ((FrD.rf k h).put (by unfold dynP; omega) _).put (by unfold dynP; omega) _
  have hV0 : dV c (nu (nu σ 8 1 0) 8 2 0) k (hu (hu h k 12 0) k 13 0) := by
    refine hV.sc (fun a b ha => by rw [nu_app, if_neg (fun z => ha z.1), nu_app, if_neg (fun z => ha z.1)]) (fun a b n => by rw [hu_app, if_neg (by omega), hu_app, if_neg (by omega)]) ?_ ?_ ?_ ?_ ?_ ?_
    · rw [hu_app, if_neg (by omega), hu_app, if_neg (by omega), nu_app, if_neg (by omega), nu_app, if_neg (by omega)]; exact hV.2.2.1.1
    · rw [hu_app, if_neg (by omega), hu_app, if_pos ⟨rfl, rfl⟩, nu_app, if_neg (by omega), nu_app, if_pos ⟨rfl, rfl⟩]; rfl
    · rw [hu_app, if_pos ⟨rfl, rfl⟩, nu_app, if_pos ⟨rfl, rfl⟩]; rfl
    · rw [hu_app, if_neg (by omega), hu_app, if_neg (by omega), nu_app, if_neg (by omega), nu_app, if_neg (by omega)]; exact hV.2.2.1.2.2.2
    · rw [hu_app, if_neg (by omega), hu_app, if_neg (by omega), nu_app, if_neg (by omega), nu_app, if_neg (by omega)]; exact hV.2.2.1.2.2.1
    · rw [hu_app, if_neg (by omega), hu_app, if_neg (by omega), nu_app, if_neg (by omega), nu_app, if_neg (by omega)]; exact hV.1.2.2.2.2
  have ok0 : sOK c (nu (nu σ 8 1 0) 8 2 0) := by
    obtain ⟨a, b, e, f, g⟩ := ok
    refine ⟨by simpa [nu_app] using a, by simp [nu_app], by simp [nu_app], fun i hi => ?_, fun p hp => by simpa [nu_app] using g p hp⟩
    exact Nat.le_trans (used_sub (fun p _ z => by simpa [nu_app] using z) i) (f i hi)
  have hW0 : WI c (ix x1) (nu (nu σ 8 1 0) 8 2 0) := hW.of (fun p hp => by simpa [nu_app] using hp)
  have hfold : sFold c (ix x1) σ = sWk c (ix x1) 1 2 (sWk c (ix x1) 0 2 (sAllOut (ix x1) (nu (nu σ 8 1 0) 8 2 0) (c 1 0))) := rfl
  rw [hfold]
  generalize nu (nu σ 8 1 0) 8 2 0 = σ0 at hV0 ok0 hW0 hfold ⊢
  have hW1 : WI c (ix x1) (sAllOut (ix x1) σ0 (c 1 0)) := hW0.allOut
  have hW2 : WI c (ix x1) (sWk c (ix x1) 0 2 (sAllOut (ix x1) σ0 (c 1 0))) := WI.walk hn (WI.walk hn hW1)
  refine td_entry rfl (Nat.le_of_ble_eq_true rfl) rfl (gX0_passFolded_0 (c := c) (σ := σ0) (S := inSt c σ0 2) (σ19 := sAllOut (ix x1) σ0 (c 1 0)) (σ25 := sWk c (ix x1) 0 2 (sAllOut (ix x1) σ0 (c 1 0))) (Q := Q) (q := q) hk ⟨fr.Q hQ, hV0, ok0, hV0.2.2.1.2.1, h1, ?_, fun h19 hh => ?_⟩)
  · intro p hp
    unfold inSt at hp
    simp at hp
    exact hp
  · rw [sLv_all] at hh
    have fr19 := fr.tr hh.1
    refine ⟨fr19.Q hQ, hh.2, hW1, by unfold vp_in; decide, fun h25 hh2 => ?_⟩
    rw [show ix 0 = 0 by decide] at hh2
    have fr25 := fr19.tr hh2.1
    refine ⟨fr25.Q hQ, hh2.2, hW2, by unfold vp_in; decide, fun h31 hh3 => ?_⟩
    rw [show ix 1 = 1 by decide] at hh3
    exact ⟨rfl, fr25.tr hh3.1, hh3.2⟩
