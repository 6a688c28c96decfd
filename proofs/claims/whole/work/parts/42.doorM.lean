/-! who is through stays so, and who never comes -/
def kpR (σ τ : nH) (p : Nat) : Prop := τ 0 p = σ 0 p ∧ τ 2 p = σ 2 p ∧ τ 3 p = σ 3 p ∧ τ 4 p = σ 4 p
def idl (σ : nH) (p : Nat) : Prop := σ 0 p = 0 ∨ σ 0 p = 3
theorem kpR.rf (σ : nH) (p : Nat) : kpR σ σ p := ⟨rfl, rfl, rfl, rfl⟩
theorem kpR.tr {σ τ υ : nH} {p : Nat} (x : kpR σ τ p) (y : kpR τ υ p) : kpR σ υ p := ⟨y.1.trans x.1, y.2.1.trans x.2.1, y.2.2.1.trans x.2.2.1, y.2.2.2.trans x.2.2.2⟩
theorem kpR.id3 {σ τ : nH} {p : Nat} (x : kpR σ τ p) (i : idl σ p) : idl τ p := by unfold idl at *; rw [x.1]; exact i
theorem kp_nu (σ : nH) (b v p : Nat) : kpR σ (nu σ 8 b v) p := ⟨by simp [nu_app], by simp [nu_app], by simp [nu_app], by simp [nu_app]⟩
theorem kp_speed (c σ : nH) (p : Nat) : kpR σ (sSpeed c σ) p := by
  unfold sSpeed
  split
  · exact (kp_nu σ _ _ p).tr (kp_nu _ _ _ p)
  · split
    · exact kp_nu _ _ _ p
    · split
      · exact kp_nu _ _ _ p
      · exact kpR.rf σ p
theorem kp_step (c : nH) (t : Nat) (σ : nH) {p : Nat} (i : idl σ p) : kpR σ (sStep c t σ) p := by
  have e1 : kpR σ (sTurn σ) p := ⟨sTurn_0 _ _ _ (by decide), sTurn_0 _ _ _ (by decide), sTurn_0 _ _ _ (by decide), sTurn_0 _ _ _ (by decide)⟩
  have i1 := e1.id3 i
  have n2 : sTurn σ 0 p ≠ 2 := by unfold idl at i1; omega
  have g : ¬ goesO c (sTurn σ) p = true := fun z => n2 (goesO_2 z)
  have o : ∀ a, sOut c t (sTurn σ) (c 1 0) a p = sTurn σ a p := fun a => by
    unfold sOut
    rw [if_neg (fun z => g z.2.2), if_neg (fun z => g z.2.2), if_neg (fun z => n2 z.2.2)]
  have e2 : kpR (sTurn σ) (sOut c t (sTurn σ) (c 1 0)) p := ⟨o 0, o 2, o 3, o 4⟩
  exact (e1.tr e2).tr (kp_nu _ _ _ p)
theorem kp_steps (c : nH) (t : Nat) {p : Nat} : ∀ k {σ : nH}, idl σ p → kpR σ (sSteps c t k σ) p
  | 0, σ, _ => kpR.rf σ p
  | k + 1, _, i => (kp_steps c t k i).tr (kp_step c t _ ((kp_steps c t k i).id3 i))
theorem sEnter_o (c : nH) (t : Nat) (σ : nH) (p i : Nat) {a q : Nat} (ha : a ≤ 4) (hq : q ≠ p) : sEnter c t σ p i a q = σ a q := by
  unfold sEnter
  rw [if_neg (fun z => hq z.2), if_neg (fun z => hq z.2), if_neg (fun z => hq z.2), if_neg (fun z => hq z.2), if_neg (fun z => hq z.2), if_neg (fun z => hq z.2.1), if_neg (by omega), if_neg (by omega), if_neg (by omega)]
theorem kp_in (c : nH) (t s : Nat) (hn : c 1 0 ≤ 12) {p : Nat} : ∀ m {σ : nH}, idl σ p → kpR σ (sIn c t s m σ) p
  | 0, σ, _ => kpR.rf σ p
  | m + 1, σ, i => by
    rw [sIn_succ]
    split
    · exact kpR.rf σ p
    · split
      · exact kpR.rf σ p
      · rename_i y1 y2
        have hst := fstW_st c σ s (c 1 0) y1 hn
        have ne : p ≠ fstW c σ s (c 1 0) := fun z => by unfold idl at i; rw [← z] at hst; omega
        have e : kpR σ (sEnter c t σ (fstW c σ s (c 1 0)) (prt c σ (fstW c σ s (c 1 0)))) p := ⟨sEnter_o _ _ _ _ _ (by decide) ne, sEnter_o _ _ _ _ _ (by decide) ne, sEnter_o _ _ _ _ _ (by decide) ne, sEnter_o _ _ _ _ _ (by decide) ne⟩
        exact e.tr (kp_in c t s hn m (e.id3 i))
theorem kp_walk (c : nH) (t s : Nat) (hn : c 1 0 ≤ 12) {p : Nat} {σ : nH} (i : idl σ p) : kpR σ (sWalk c t s σ) p := by
  unfold sWalk
  split
  · exact kpR.rf σ p
  · rename_i y1
    have hst := fstW_st c σ s (c 1 0) y1 hn
    have ne : p ≠ fstW c σ s (c 1 0) := fun z => by unfold idl at i; rw [← z] at hst; omega
    generalize fstW c σ s (c 1 0) = f at ne
    exact ⟨by simp [sThru, nu_app, ne], by simp [sThru, nu_app, ne], by simp [sThru, nu_app, ne], by simp [sThru, nu_app, ne]⟩
theorem kp_move (c : nH) (t : Nat) (hn : c 1 0 ≤ 12) {p : Nat} {σ : nH} (i : idl σ p) : kpR σ (sMove c t σ) p := by
  unfold sMove
  split
  · unfold sFold
    have e1 := (kp_nu σ 1 0 p).tr (kp_nu _ 2 0 p)
    have i1 := e1.id3 i
    generalize nu (nu σ 8 1 0) 8 2 0 = σ1 at e1 i1
    have n2 : σ1 0 p ≠ 2 := by unfold idl at i1; omega
    have o : ∀ a, sAllOut t σ1 (c 1 0) a p = σ1 a p := fun a => by unfold sAllOut; rw [if_neg (fun z => n2 z.2.2), if_neg (fun z => n2 z.2.2)]
    have e2 : kpR σ1 (sAllOut t σ1 (c 1 0)) p := ⟨o 0, o 2, o 3, o 4⟩
    have i2 := e2.id3 i1
    have e3 := kp_walk c t 0 hn i2
    have e4 := kp_walk c t 0 hn (e3.id3 i2)
    have e5 := kp_walk c t 1 hn (e4.id3 (e3.id3 i2))
    have e6 := kp_walk c t 1 hn (e5.id3 (e4.id3 (e3.id3 i2)))
    exact ((((e1.tr e2).tr e3).tr e4).tr e5).tr e6
  · have e1 := kp_speed c σ p
    have i1 := e1.id3 i
    have e2 := kp_steps c t (sSpeed c σ 8 1) i1
    have i2 := e2.id3 i1
    have e3 := kp_in c t 0 hn 12 i2
    exact ((e1.tr e2).tr e3).tr (kp_in c t 1 hn 12 (e3.id3 i2))
theorem kp_still (c σ : nH) (p : Nat) : kpR σ (sStill c σ) p := kp_nu _ _ _ p
theorem run_succ (c : nH) (t : Nat) : sRun c (t + 1) = sStill c (sMove c t (sCome c t (sRun c t) (c 1 0))) := rfl
theorem run_stay (c : nH) (hn : c 1 0 ≤ 12) {p : Nat} (hp : p < c 1 0) {t : Nat} (h : sRun c t 0 p = 3 ∨ (p = c 5 0 ∧ sRun c t 0 p = 0)) : kpR (sRun c t) (sRun c (t + 1)) p := by
  have e : kpR (sRun c t) (sCome c t (sRun c t) (c 1 0)) p := by
    have o : ∀ a, sCome c t (sRun c t) (c 1 0) a p = sRun c t a p := fun a => by
      unfold sCome
      rw [if_neg (fun z => ?_)]
      rcases h with y | y
      · have := run_wi c hn t p hp (by omega)
        omega
      · exact z.2.2.2 y.1
    exact ⟨o 0, o 2, o 3, o 4⟩
  have i : idl (sRun c t) p := by unfold idl; omega
  have i1 := e.id3 i
  rw [run_succ]
  exact (e.tr (kp_move c t hn i1)).tr (kp_still c _ p)
theorem run_stays (c : nH) (hn : c 1 0 ≤ 12) {p : Nat} (hp : p < c 1 0) {t : Nat} (h : sRun c t 0 p = 3 ∨ (p = c 5 0 ∧ sRun c t 0 p = 0)) : ∀ k, kpR (sRun c t) (sRun c (t + k)) p
  | 0 => kpR.rf _ p
  | k + 1 => by
    have e := run_stays c hn hp h k
    exact e.tr (run_stay c hn hp (by rw [e.1]; exact h))
theorem run_never (c : nH) (hn : c 1 0 ≤ 12) {p : Nat} (hp : p < c 1 0) (h5 : p = c 5 0) (t : Nat) : sRun c t 0 p = 0 := by
  have e := run_stays c hn hp (t := 0) (Or.inr ⟨h5, rfl⟩) t
  rw [Nat.zero_add] at e
  exact e.1
/-! when each was in, through -/
def tI (n : Nat) (t : Nat) (σ : nH) : Prop := ∀ p, p < n → (σ 0 p = 3 → σ 3 p ≤ t) ∧ (σ 0 p ≠ 3 → σ 3 p = 120) ∧ (σ 2 p ≤ t ∨ σ 2 p = 120)
theorem tI.of {n t : Nat} {σ τ : nH} (x : tI n t σ) (h : ∀ p, p < n → τ 3 p = σ 3 p ∧ (τ 0 p = 3 ↔ σ 0 p = 3) ∧ τ 2 p = σ 2 p) : tI n t τ := fun p hp => by
  obtain ⟨a, b, e⟩ := h p hp
  obtain ⟨x1, x2, x3⟩ := x p hp
  rw [a, e]
  exact ⟨fun z => x1 (b.mp z), fun z => x2 (fun y => z (b.mpr y)), x3⟩
theorem tI.speed {n t : Nat} {c σ : nH} (x : tI n t σ) : tI n t (sSpeed c σ) := x.of (fun p _ => by
  have e := kp_speed c σ p
  exact ⟨e.2.2.1, by rw [e.1], e.2.1⟩)
theorem tI.step {n t : Nat} {c σ : nH} (x : tI n t σ) (hn : n = c 1 0) : tI n t (sStep c t σ) := by
  have x1 : tI n t (sTurn σ) := x.of (fun p _ => ⟨sTurn_0 _ _ _ (by decide), by rw [sTurn_0 _ _ _ (by decide)], sTurn_0 _ _ _ (by decide)⟩)
  have x2 : tI n t (sOut c t (sTurn σ) (c 1 0)) := fun p hp => by
    rw [hn] at hp
    obtain ⟨y1, y2, y3⟩ := x1 p (by omega)
    rw [sOut_0r]
    have e3 : sOut c t (sTurn σ) (c 1 0) 3 p = if p < c 1 0 ∧ goesO c (sTurn σ) p = true then t else sTurn σ 3 p := by simp [sOut]
    have e2 : sOut c t (sTurn σ) (c 1 0) 2 p = sTurn σ 2 p := by simp [sOut]
    rw [e3, e2]
    by_cases g : p < c 1 0 ∧ goesO c (sTurn σ) p = true
    · rw [if_pos g, if_pos g]
      exact ⟨fun _ => Nat.le_refl t, fun z => absurd rfl z, y3⟩
    · rw [if_neg g, if_neg g]
      exact ⟨y1, y2, y3⟩
  exact x2.of (fun p _ => by
    have e := kp_nu (sOut c t (sTurn σ) (c 1 0)) 3 (σ 8 3 + lossS c (sOut c t (sTurn σ) (c 1 0)) (σ 8 0) (c 0 0)) p
    exact ⟨e.2.2.1, by rw [show sStep c t σ 0 p = _ from e.1], e.2.1⟩)
theorem tI.steps {n t : Nat} {c : nH} (hn : n = c 1 0) : ∀ k {σ : nH}, tI n t σ → tI n t (sSteps c t k σ)
  | 0, _, x => x
  | k + 1, _, x => (tI.steps hn k x).step hn
theorem tI.sIn {n t s : Nat} {c : nH} (hn : n = c 1 0) (h12 : c 1 0 ≤ 12) : ∀ m {σ : nH}, tI n t σ → tI n t (sIn c t s m σ)
  | 0, _, x => x
  | m + 1, σ, x => by
    rw [sIn_succ]
    split
    · exact x
    · split
      · exact x
      · rename_i y1 y2
        have hst := fstW_st c σ s (c 1 0) y1 h12
        generalize fstW c σ s (c 1 0) = f at hst
        generalize prt c σ f = i
        refine tI.sIn hn h12 m (fun p hp => ?_)
        obtain ⟨z1, z2, z3⟩ := x p hp
        by_cases e : p = f
        · subst e
          have e0 : sEnter c t σ p i 0 p = 2 := by simp [sEnter]
          have e2 : sEnter c t σ p i 2 p = t := by simp [sEnter]
          have e3 : sEnter c t σ p i 3 p = σ 3 p := by
            unfold sEnter
            rw [if_neg (by omega), if_neg (by omega), if_neg (by omega), if_neg (by omega), if_neg (by omega), if_neg (by omega), if_neg (by omega), if_neg (by omega), if_neg (by omega)]
          rw [e0, e2, e3]
          exact ⟨fun z => absurd z (by decide), fun _ => z2 (by omega), Or.inl (Nat.le_refl t)⟩
        · rw [sEnter_o _ _ _ _ _ (by decide) e, sEnter_o _ _ _ _ _ (by decide) e, sEnter_o _ _ _ _ _ (by decide) e]
          exact ⟨z1, z2, z3⟩
theorem tI.walk {n t s : Nat} {c σ : nH} (x : tI n t σ) : tI n t (sWalk c t s σ) := by
  unfold sWalk
  split
  · exact x
  · generalize fstW c σ s (c 1 0) = f
    intro p hp
    by_cases e : p = f
    · subst e
      simp [sThru, nu_app]
      exact (x p hp).2.2
    · simp [sThru, nu_app, e]
      exact x p hp
theorem tI.move {t : Nat} {c σ : nH} (x : tI (c 1 0) t σ) (hn : c 1 0 ≤ 12) : tI (c 1 0) t (sMove c t σ) := by
  unfold sMove
  split
  · unfold sFold
    refine tI.walk (tI.walk (tI.walk (tI.walk ?_)))
    have x1 : tI (c 1 0) t (nu (nu σ 8 1 0) 8 2 0) := x.of (fun p _ => by simp [nu_app])
    generalize nu (nu σ 8 1 0) 8 2 0 = σ1 at x1
    intro p hp
    obtain ⟨y1, y2, y3⟩ := x1 p hp
    by_cases z : σ1 0 p = 2
    · simp [sAllOut, hp, z]
      exact y3
    · simp [sAllOut, z]
      exact ⟨y1, y2, y3⟩
  · exact tI.sIn rfl hn 12 (tI.sIn rfl hn 12 (tI.steps rfl _ x.speed))
theorem run_t (c : nH) (hn : c 1 0 ≤ 12) : ∀ t p, p < c 1 0 → (sRun c t 0 p = 3 → sRun c t 3 p < t) ∧ (sRun c t 0 p ≠ 3 → sRun c t 3 p = 120) ∧ (sRun c t 2 p < t ∨ sRun c t 2 p = 120)
  | 0, p, _ => ⟨fun z => absurd z (by decide : ¬ 0 = 3), fun _ => rfl, Or.inr rfl⟩
  | t + 1, p, hp => by
    have x0 : tI (c 1 0) t (sRun c t) := fun q hq => by
      obtain ⟨a, b, e⟩ := run_t c hn t q hq
      exact ⟨fun z => Nat.le_of_lt (a z), b, by omega⟩
    have x1 : tI (c 1 0) t (sCome c t (sRun c t) (c 1 0)) := fun q hq => by
      obtain ⟨a, b, e⟩ := x0 q hq
      have e3 : sCome c t (sRun c t) (c 1 0) 3 q = sRun c t 3 q := by simp [sCome]
      have e2 : sCome c t (sRun c t) (c 1 0) 2 q = sRun c t 2 q := by simp [sCome]
      rw [e3, e2]
      by_cases z : q < c 1 0 ∧ 0 = 0 ∧ c 4 q = t ∧ q ≠ c 5 0
      · have e0 : sCome c t (sRun c t) (c 1 0) 0 q = 1 := by unfold sCome; rw [if_pos z]
        rw [e0]
        refine ⟨fun y => absurd y (by decide), fun _ => b (fun y => ?_), e⟩
        have := run_wi c hn t q hq (by omega)
        omega
      · have e0 : sCome c t (sRun c t) (c 1 0) 0 q = sRun c t 0 q := by unfold sCome; rw [if_neg z]
        rw [e0]
        exact ⟨a, b, e⟩
    have x2 := (x1.move hn) p hp
    have k := kp_still c (sMove c t (sCome c t (sRun c t) (c 1 0))) p
    rw [run_succ, k.1, k.2.1, k.2.2.1]
    exact ⟨fun z => by have := x2.1 z; omega, x2.2.1, by have := x2.2.2; omega⟩
/-! all have come -/
def nz (σ τ : nH) : Prop := ∀ p, σ 0 p ≠ 0 → τ 0 p ≠ 0
theorem nz.in {c : nH} {t s : Nat} : ∀ m {σ : nH}, nz σ (sIn c t s m σ)
  | 0, _, _, h => h
  | m + 1, σ, p, h => by
    rw [sIn_succ]
    split
    · exact h
    · split
      · exact h
      · refine nz.in m p ?_
        rw [sEnter_0]
        split
        · decide
        · exact h
theorem nz.steps {c : nH} {t : Nat} : ∀ k {σ : nH}, nz σ (sSteps c t k σ)
  | 0, _, _, h => h
  | k + 1, σ, p, h => by
    have y := nz.steps (c := c) (t := t) k p h
    show sStep c t (sSteps c t k σ) 0 p ≠ 0
    rw [sStep_0, sOut_0r]
    split
    · decide
    · rw [sTurn_0 _ _ _ (by decide)]; exact y
theorem nz.walk {c : nH} {t s : Nat} {σ : nH} : nz σ (sWalk c t s σ) := fun p h => by
  unfold sWalk
  split
  · exact h
  · generalize fstW c σ s (c 1 0) = f
    by_cases e : p = f
    · simp [sThru, nu_app, e]
    · simp [sThru, nu_app, e]; exact h
theorem nz.move {c : nH} {t : Nat} {σ : nH} : nz σ (sMove c t σ) := fun p h => by
  unfold sMove
  split
  · unfold sFold
    refine nz.walk p (nz.walk p (nz.walk p (nz.walk p ?_)))
    by_cases z : p < c 1 0 ∧ σ 0 p = 2
    · simp [sAllOut, nu_app, z.1, z.2]
    · have z1 : ¬ (p < c 1 0 ∧ 0 = 0 ∧ nu (nu σ 8 1 0) 8 2 0 0 p = 2) := fun y => z ⟨y.1, by simpa [nu_app] using y.2.2⟩
      unfold sAllOut
      rw [if_neg z1, if_neg (by omega)]
      simpa [nu_app] using h
  · refine nz.in 12 p (nz.in 12 p (nz.steps _ p ?_))
    rw [(kp_speed c σ p).1]
    exact h
theorem run_came (c : nH) : ∀ t p, p < c 1 0 → p ≠ c 5 0 → c 4 p < t → sRun c t 0 p ≠ 0
  | 0, _, _, _, h => absurd h (by omega)
  | t + 1, p, hp, h5, h => by
    rw [run_succ, (kp_still c _ p).1]
    refine nz.move p ?_
    unfold sCome
    by_cases z : c 4 p = t
    · rw [if_pos ⟨hp, rfl, z, h5⟩]; decide
    · rw [if_neg (fun y => z y.2.2.1)]
      exact run_came c t p hp h5 (by omega)
/-! Door: a run -/
set_option maxRecDepth 20000 in
set_option maxHeartbeats 4000000 in
theorem gX0_run_0 {G : td_G} {d : Nat} {Post : td_P} {k0 : Nat} {x1 x2 : Int32} {h : td_H} (hk0 : td_kd k0 = 0) (K : td_J G (d + 5) mX0_run Post 2 [(0, .ref k0), (1, .int x1), (2, .int x2), (3, .int 0)] [] h) : td_J G (d + 5) mX0_run Post 0 [(0, .ref k0), (1, .int x1), (2, .int x2)] [] h := by
  refine td_iconst (v := 0) dX0_run_0 (by decide) ?_
  refine td_istore_n (lv2 := [(0, .ref k0), (1, .int x1), (2, .int x2), (3, .int 0)]) dX0_run_1 (by decide) rfl ?_
  exact K
set_option maxRecDepth 20000 in
set_option maxHeartbeats 4000000 in
theorem gX0_run_2 {G : td_G} {d : Nat} {Post : td_P} {q : Nat} {Q : Nat → Nat} {c : nH} {k0 : Nat} {x1 x2 x3 : Int32} {h : td_H} (hk0 : td_kd k0 = 0) (K : (x1 < x3 → (Post none h)) ∧ (¬ x1 < x3 → ((120 ≤ x3 → (Post none h)) ∧ (¬ 120 ≤ x3 → ((x2 = 0 → (dQ c Q (k0) q h ∧ dV c (sRun c (ix x3)) (k0) h ∧ vp_in x3 120 ∧ (∀ h34 : td_H, (FrD (k0) h h34 ∧ dV c (sRun c (ix x3 + 1)) (k0) h34) → (td_J G (d + 5) mX0_run Post 2 [(0, .ref k0), (1, .int x1), (2, .int x2), (3, .int (x3 + 1))] [] h34)))) ∧ (¬ x2 = 0 → ((¬ (h (k0 + 7) 4) = (h k0 6) → (dQ c Q (k0) q h ∧ dV c (sRun c (ix x3)) (k0) h ∧ vp_in x3 120 ∧ (∀ h34 : td_H, (FrD (k0) h h34 ∧ dV c (sRun c (ix x3 + 1)) (k0) h34) → (td_J G (d + 5) mX0_run Post 2 [(0, .ref k0), (1, .int x1), (2, .int x2), (3, .int (x3 + 1))] [] h34)))) ∧ ((h (k0 + 7) 4) = (h k0 6) → (Post none h))))))))) : td_J G (d + 5) mX0_run Post 2 [(0, .ref k0), (1, .int x1), (2, .int x2), (3, .int x3)] [] h := by
  refine td_iload_n 3 dX0_run_2 rfl ?_
  refine td_iload_n 1 dX0_run_3 rfl ?_
  obtain ⟨Kt, Kf⟩ := K
  refine td_icmp_gt (tgt := 43) dX0_run_4 (by decide) (fun q4 => ?_) (fun q4 => ?_)
  · have K := Kt q4
    exact td_return rfl dX0_run_43 K
  · have K := Kf q4
    refine td_iload_n 3 dX0_run_7 rfl ?_
    refine td_bipush (v := 120) dX0_run_8 (by decide) ?_
    obtain ⟨Kt, Kf⟩ := K
    refine td_icmp_ge (tgt := 43) dX0_run_10 (by decide) (fun q10 => ?_) (fun q10 => ?_)
    · have K := Kt q10
      exact td_return rfl dX0_run_43 K
    · have K := Kf q10
      refine td_iload_n 2 dX0_run_13 rfl ?_
      obtain ⟨Kt, Kf⟩ := K
      refine td_if_eq (tgt := 32) dX0_run_14 (by decide) (fun q14 => ?_) (fun q14 => ?_)
      · have K := Kt q14
        refine td_aload_n 0 dX0_run_32 rfl ?_
        refine td_iload_n 3 dX0_run_33 rfl ?_
        obtain ⟨e34_0, K⟩ := K
        obtain ⟨e34_1, K⟩ := K
        obtain ⟨e34_2, K⟩ := K
        refine cl_X0_107 rfl hk0 dX0_run_34 (Nat.le_of_ble_eq_true rfl) (c_C_pass x3 e34_0 e34_1 e34_2) ?_
        rintro _ h34 ⟨rfl, f34⟩
        have K := K h34 f34
        refine td_eqs (st2 := []) rfl ?_
        refine td_iinc 3 (v := x3 + 1) (lv2 := [(0, .ref k0), (1, .int x1), (2, .int x2), (3, .int (x3 + 1))]) dX0_run_37 rfl (congrArg (x3 + ·) (by decide)) (by decide) rfl ?_
        refine td_goto (tgt := 2) dX0_run_40 (by decide) ?_
        exact K
      · have K := Kf q14
        refine td_aload_n 0 dX0_run_17 rfl ?_
        refine gf_X0_21 rfl hk0 dX0_run_18 ?_
        refine gf_X0_104 rfl (kd_0_1 hk0) dX0_run_21 ?_
        refine td_aload_n 0 dX0_run_24 rfl ?_
        refine gf_X0_42 rfl hk0 dX0_run_25 ?_
        obtain ⟨Kt, Kf⟩ := K
        refine td_icmp_ne (tgt := 32) dX0_run_28 (by decide) (fun q28 => ?_) (fun q28 => ?_)
        · have K := Kt q28
          refine td_aload_n 0 dX0_run_32 rfl ?_
          refine td_iload_n 3 dX0_run_33 rfl ?_
          obtain ⟨e34_0, K⟩ := K
          obtain ⟨e34_1, K⟩ := K
          obtain ⟨e34_2, K⟩ := K
          refine cl_X0_107 rfl hk0 dX0_run_34 (Nat.le_of_ble_eq_true rfl) (c_C_pass x3 e34_0 e34_1 e34_2) ?_
          rintro _ h34 ⟨rfl, f34⟩
          have K := K h34 f34
          refine td_eqs (st2 := []) rfl ?_
          refine td_iinc 3 (v := x3 + 1) (lv2 := [(0, .ref k0), (1, .int x1), (2, .int x2), (3, .int (x3 + 1))]) dX0_run_37 rfl (congrArg (x3 + ·) (by decide)) (by decide) rfl ?_
          refine td_goto (tgt := 2) dX0_run_40 (by decide) ?_
          exact K
        · have K := Kf q28
          exact td_return rfl dX0_run_31 K
/-- the run of c at k has gone on for T ticks of at most lim, and is at its end, or all are through -/
def dRun (c : nH) (lim : Nat) (b : Int32) (k : Nat) (h : td_H) : Prop := ∃ T, T ≤ lim ∧ dV c (sRun c T) k h ∧ (T = lim ∨ (b ≠ 0 ∧ ∀ p, p < c 1 0 → p ≠ c 5 0 → sRun c T 0 p = 3))
theorem c_C_run {G : td_G} {d : Nat} {h : td_H} {k q : Nat} {c : nH} {Q : Nat → Nat} (x1 x2 : Int32) (hQ : dQ c Q k q h) (hV : dV c s0 k h) (h1 : vp_in x1 121) : td_C G (d + 5) mX0_run [.ref k, .int x1, .int x2] h (fun r h' => r = none ∧ FrD k h h' ∧ dRun c (min (ix x1 + 1) 120) x2 k h') := by
  obtain ⟨last, hl, rfl⟩ := vp_in_of h1 (by decide)
  have el : ix (nI last) = last := ixn (by omega)
  rw [el]
  have hk := hQ.1
  have hn := hQ.2.2.2.2.1.1.n
  have hlim : min (last + 1) 120 ≤ 120 := Nat.min_le_right _ _
  have hlim2 : min (last + 1) 120 ≤ last + 1 := Nat.min_le_left _ _
  refine td_entry rfl (Nat.le_of_ble_eq_true rfl) rfl (gX0_run_0 hk ?_)
  refine td_forH (min (last + 1) 120) (fun t => [(0, .ref k), (1, .int (nI last)), (2, .int x2), (3, .int (nI t))]) (fun t h' => FrD k h h' ∧ dV c (sRun c t) k h') rfl ⟨FrD.rf k h, hV⟩ (fun t ht h' hP ih => ?_) (fun h' hP => ?_)
  · obtain ⟨hF, hV'⟩ := hP
    have et : ix (nI t) = t := ixn (by omega)
    have vt : vp_in (nI t) 120 := vp_in_nI (by omega) (by decide)
    have go : dQ c Q k q h' ∧ dV c (sRun c (ix (nI t))) k h' ∧ vp_in (nI t) 120 ∧ (∀ h34 : td_H, (FrD k h' h34 ∧ dV c (sRun c (ix (nI t) + 1)) k h34) → td_J G (d + 5) mX0_run (fun r h' => r = none ∧ FrD k h h' ∧ dRun c (min (last + 1) 120) x2 k h') 2 [(0, .ref k), (1, .int (nI last)), (2, .int x2), (3, .int (nI t + 1))] [] h34) := by
      rw [et]
      exact ⟨hF.Q hQ, hV', vt, fun h34 hh => td_to (ih h34 ⟨hF.tr hh.1, hh.2⟩) (by rw [nI_1]) rfl rfl⟩
    refine gX0_run_2 (c := c) (Q := Q) (q := q) hk ⟨fun y => absurd (lt_of y) (by omega), fun _ => ⟨fun y => absurd (le_of (a := 120) y) (by omega), fun _ => ⟨fun _ => go, fun y => ⟨fun _ => go, fun z => ⟨rfl, hF, t, Nat.le_of_lt ht, hV', Or.inr ⟨y, fun p hp h5 => ?_⟩⟩⟩⟩⟩⟩
    rw [hV'.2.2.2.2.2.1, (hF.Q hQ).2.2.2.2.2.2.2.1] at z
    have w := ms_inj z p (by omega)
    unfold inSt comM at w
    simpa [hp, h5] using w
  · obtain ⟨hF, hV'⟩ := hP
    have fin : (none : Option Value) = none ∧ FrD k h h' ∧ dRun c (min (last + 1) 120) x2 k h' := ⟨rfl, hF, _, Nat.le_refl _, hV', Or.inl rfl⟩
    refine gX0_run_2 (c := c) (Q := Q) (q := q) hk ⟨fun _ => fin, fun y => ⟨fun _ => fin, fun z => ?_⟩⟩
    have y1 := nlt_of y
    have z1 := nle_of (a := 120) z
    omega
