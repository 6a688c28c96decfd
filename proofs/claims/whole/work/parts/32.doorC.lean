/-! Door: how a course at place k stands for a run of c -/
def comM (c : nH) (p : Nat) : Bool := decide (p < c 1 0) && !(decide (p = c 5 0))
def kdM (c : nH) (κ p : Nat) : Bool := decide (p < c 1 0) && decide (c 3 p = κ)
def sdM (c : nH) (s p : Nat) : Bool := decide (p < c 1 0) && decide (c 2 p = s)
def cmM (c : nH) (t p : Nat) : Bool := decide (p < c 1 0) && (decide (c 4 p = t) && !(decide (p = c 5 0)))
/-- p is ahead of b at a mouth -/
def bef (c : nH) (p b : Nat) : Prop := ahead c p b = true ∨ (¬ ahead c b p = true ∧ p < b)
def qOrd (c : nH) (Q : Nat → Nat) : Prop := (∀ i, i < c 1 0 → Q i < c 1 0) ∧ ∀ i j, i < j → j < c 1 0 → bef c (Q i) (Q j)
/-- what stays as long as a run goes on: the course's plan lies at q -/
def dQ (c : nH) (Q : Nat → Nat) (k q : Nat) (h : td_H) : Prop := td_kd k = 0 ∧ td_kd q = 5 ∧ q + 4 < k ∧ h k 5 = nI q ∧ dP c q h ∧ dLay (c 0 0) (c 0 1) (k + 1) h ∧ h (k + 1) 10 = nI (c 0 6) ∧ h k 6 = ms (comM c) ∧ h k 7 = ms (kdM c 3) ∧ h k 8 = ms (kdM c 5) ∧ (∀ s, s < 2 → h (k + 14) s = ms (sdM c s)) ∧ (∀ t, t < 120 → h (k + 13) t = ms (cmM c t)) ∧ qOrd c Q ∧ ∀ i, i < c 1 0 → h (k + 12) i = nI (Q i)
def dynP (k a b : Nat) : Prop := (a = k ∧ 9 ≤ b ∧ b ≤ 14) ∨ (a = k + 1 ∧ (b = 7 ∨ b = 8 ∨ b = 9 ∨ b = 11)) ∨ (k + 4 ≤ a ∧ a ≤ k + 6) ∨ (a = k + 7 ∧ 4 ≤ b) ∨ (k + 8 ≤ a ∧ a ≤ k + 11)
def FrD (k : Nat) (h h' : td_H) : Prop := ∀ a b, ¬ dynP k a b → h' a b = h a b
theorem FrD.rf (k : Nat) (h : td_H) : FrD k h h := fun _ _ _ => rfl
theorem FrD.tr {k : Nat} {h h1 h2 : td_H} (x : FrD k h h1) (y : FrD k h1 h2) : FrD k h h2 := fun a b n => (y a b n).trans (x a b n)
theorem FrD.put {k : Nat} {h h1 : td_H} (x : FrD k h h1) {a b : Nat} (hp : dynP k a b) (v : Int32) : FrD k h (hu h1 a b v) := fun a' b' n => by
  rw [hu_app, if_neg (fun z => n (by rw [z.1, z.2]; exact hp))]
  exact x a' b' n
theorem FrD.P {c : nH} {k q : Nat} {h h1 : td_H} (x : FrD k h h1) (hq : q + 4 < k) (hc : dP c q h) : dP c q h1 := by
  obtain ⟨w, a1, a2, a3⟩ := hc
  refine ⟨w, fun i hi => ?_, ?_, fun p hp => ?_⟩
  · rw [x (q + 1) i (by unfold dynP; omega)]; exact a1 i hi
  · rw [x q 4 (by unfold dynP; omega)]; exact a2
  · rw [x (q + 2) p (by unfold dynP; omega), x (q + 3) p (by unfold dynP; omega), x (q + 4) p (by unfold dynP; omega)]
    exact a3 p hp
theorem FrD.Q {c : nH} {Q : Nat → Nat} {k q : Nat} {h h1 : td_H} (x : FrD k h h1) (hc : dQ c Q k q h) : dQ c Q k q h1 := by
  obtain ⟨a1, a2, a3, a4, a5, a6, a7, a8, a9, a10, a11, a12, a13, a14⟩ := hc
  refine ⟨a1, a2, a3, ?_, x.P a3 a5, ?_, ?_, ?_, ?_, ?_, fun s hs => ?_, fun t ht => ?_, a13, fun i hi => ?_⟩
  · rw [x k 5 (by unfold dynP; omega)]; exact a4
  · obtain ⟨b1, b2, b3, b4, b5⟩ := a6
    refine ⟨b1, b2, ?_, ?_, fun s hs t ht => ⟨?_, fun i hi => ?_⟩⟩
    · rw [x (k + 1) 5 (by unfold dynP; omega)]; exact b3
    · rw [x (k + 1) 6 (by unfold dynP; omega)]; exact b4
    · rw [x (k + 1 + 2) _ (by unfold dynP; omega)]; exact (b5 s hs t ht).1
    · rw [x (k + 1 + 1) _ (by unfold dynP; omega)]; exact (b5 s hs t ht).2 i hi
  · rw [x (k + 1) 10 (by unfold dynP; omega)]; exact a7
  · rw [x k 6 (by unfold dynP; omega)]; exact a8
  · rw [x k 7 (by unfold dynP; omega)]; exact a9
  · rw [x k 8 (by unfold dynP; omega)]; exact a10
  · rw [x (k + 14) s (by unfold dynP; omega)]; exact a11 s hs
  · rw [x (k + 13) t (by unfold dynP; omega)]; exact a12 t ht
  · rw [x (k + 12) i (by unfold dynP; omega)]; exact a14 i hi
def qE (c σ : nH) (p : Nat) : Nat := if σ 0 p ≤ 1 then 120 else c 4 p + σ 4 p
def dvW (c σ : nH) (k : Nat) (h : td_H) : Prop := ∃ w : Nat → Bool, h k 9 = ms w ∧ ∀ p, p < c 1 0 → (w p = true → 2 ≤ σ 0 p) ∧ (σ 0 p = 2 → c 3 p = 5 → (w p = true ↔ 1 ≤ σ 6 p))
def dvA (c σ : nH) (k : Nat) (h : td_H) : Prop := h k 10 = ms (inSt c σ 1) ∧ h k 11 = nI (pushS c σ) ∧ h k 12 = nI (σ 8 1) ∧ h k 13 = nI (σ 8 2) ∧ h k 14 = nI (σ 8 5)
def dvD (c σ : nH) (k : Nat) (h : td_H) : Prop := h (k + 1) 7 = nI (σ 8 0) ∧ h (k + 1) 8 = ms (inSt c σ 2) ∧ h (k + 1) 9 = nI (σ 8 4) ∧ h (k + 1) 11 = nI (σ 8 3)
def dvP (c σ : nH) (k : Nat) (h : td_H) : Prop := ∀ i, i < 4 → h (k + 4) i = ms (inP c σ i) ∧ h (k + 5) i = nI (c 0 2 - used c σ i)
def dvO (c σ : nH) (k : Nat) (h : td_H) : Prop := ∀ p, p < c 1 0 → σ 0 p = 2 → h (k + 6) p = nI (σ 1 p)
def dvF (c σ : nH) (k : Nat) (h : td_H) : Prop := h (k + 7) 4 = ms (inSt c σ 3) ∧ h (k + 7) 5 = ms (fun p => decide (p < c 1 0) && decide (σ 5 p = 1)) ∧ ∀ p, p < 12 → h (k + 8) p = nI (σ 2 p) ∧ h (k + 9) p = nI (qE c σ p) ∧ h (k + 10) p = nI (σ 3 p) ∧ h (k + 11) p = ms (fun q => decide (σ (20 + p) q = 1))
def dV (c σ : nH) (k : Nat) (h : td_H) : Prop := dvA c σ k h ∧ dvW c σ k h ∧ dvD c σ k h ∧ dvP c σ k h ∧ dvO c σ k h ∧ dvF c σ k h
/-- what a run keeps to -/
def sOK (c σ : nH) : Prop := σ 8 0 < 12 ∧ σ 8 1 ≤ 3 ∧ σ 8 2 ≤ 9 ∧ (∀ i, i < 4 → used c σ i ≤ c 0 2) ∧ ∀ p, p < c 1 0 → σ 0 p < 4 ∧ σ 6 p < 3 ∧ (σ 0 p = 2 → σ 1 p < c 0 0)
theorem used_leave (c σ : nH) {p : Nat} (t i : Nat) (hp : p < c 1 0) (h2 : σ 0 p = 2) : used c (nu (nu σ 0 p 3) 3 p t) i + (if σ 1 p = i then szk (c 3 p) else 0) = used c σ i := by
  unfold used
  have e : fb_sm (fun q => if inP c (nu (nu σ 0 p 3) 3 p t) i q then szk (c 3 q) else 0) (c 1 0) = fb_sm (fun q => if q = p then 0 else (if inP c σ i q then szk (c 3 q) else 0)) (c 1 0) := fb_sm_cong (fun q _ => by
    by_cases z : q = p
    · subst z
      simp [inP, nu_app]
    · simp [inP, nu_app, z])
  rw [e]
  have z := fb_sm_upd (fun q => if inP c σ i q then szk (c 3 q) else 0) 0 hp
  rw [Nat.add_zero] at z
  rw [← z]
  congr 1
  by_cases y : σ 1 p = i
  · simp [inP, hp, h2, y]
  · simp [inP, y]
theorem push_leave (c σ : nH) {p : Nat} (t : Nat) (hp : p < c 1 0) (h2 : σ 0 p = 2) : pushS c (nu (nu σ 0 p 3) 3 p t) + puk (c 3 p) = pushS c σ := by
  unfold pushS
  have e : fb_sm (fun q => if nu (nu σ 0 p 3) 3 p t 0 q = 2 then puk (c 3 q) else 0) (c 1 0) = fb_sm (fun q => if q = p then 0 else (if σ 0 q = 2 then puk (c 3 q) else 0)) (c 1 0) := fb_sm_cong (fun q _ => by
    by_cases z : q = p
    · subst z
      simp [nu_app]
    · simp [nu_app, z])
  rw [e]
  have z := fb_sm_upd (fun q => if σ 0 q = 2 then puk (c 3 q) else 0) 0 hp
  simp only [h2, if_true, Nat.add_zero] at z
  exact z
def leaveH (h : td_H) (k p s u t : Nat) : td_H := endH (hu (relH h (k + 1) (nI p) (nI s)) k 11 ((relH h (k + 1) (nI p) (nI s)) k 11 - nI u)) (k + 7) (nI p) (nI t)
theorem leaveH_app (h : td_H) {k p i : Nat} (s u t : Nat) (hp : p < 12) (hi : h (k + 6) p = nI i) (hi4 : i < 4) (a b : Nat) : leaveH h k p s u t a b = if a = k + 7 ∧ b = 4 then (h (k + 7) 4 ||| jshl 1 (nI p)) else if a = k + 10 ∧ b = p then nI t else if a = k ∧ b = 11 then h k 11 - nI u else if a = k + 1 ∧ b = 8 then (h (k + 1) 8 &&& (jshl 1 (nI p) ^^^ (-1))) else if a = k + 5 ∧ b = i then h (k + 5) i + nI s else if a = k + 4 ∧ b = i then (h (k + 4) i &&& (jshl 1 (nI p) ^^^ (-1))) else h a b := by
  have e6 : h (k + 1 + 5) (ix (nI p)) = nI i := by rw [ixn (by omega)]; exact hi
  have er : ∀ a b, relH h (k + 1) (nI p) (nI s) a b = if a = k + 1 ∧ b = 8 then (h (k + 1) 8 &&& (jshl 1 (nI p) ^^^ (-1))) else if a = k + 5 ∧ b = i then h (k + 5) i + nI s else if a = k + 4 ∧ b = i then (h (k + 4) i &&& (jshl 1 (nI p) ^^^ (-1))) else h a b := by
    intro a b
    unfold relH
    rw [e6, ixn (by omega)]
    simp only [hu_app, Nat.add_assoc]
  unfold leaveH endH
  simp only [hu_app, er, Nat.add_assoc]
  rw [ixn (by omega)]
  have n1 : ¬ (k + 7 = k ∧ 4 = 11) := by omega
  have n2 : ¬ (k + 7 = k + 1 ∧ 4 = 8) := by omega
  have n3 : ¬ (k + 7 = k + 5 ∧ 4 = i) := by omega
  have n4' : ¬ (k + 7 = k + 4 ∧ 4 = i) := by omega
  have m1 : ¬ (k = k + 1 ∧ 11 = 8) := by omega
  have m2 : ¬ (k = k + 5 ∧ 11 = i) := by omega
  have m3 : ¬ (k = k + 4 ∧ 11 = i) := by omega
  simp only [n1, n2, n3, n4', m1, m2, m3, if_false]
theorem dV.leave {c σ : nH} {k : Nat} {h : td_H} (x : dV c σ k h) {p : Nat} (t : Nat) (hp : p < c 1 0) (hn : c 1 0 ≤ 12) (h2 : σ 0 p = 2) (hpt : σ 1 p < 4) (hu : used c σ (σ 1 p) ≤ c 0 2) : dV c (nu (nu σ 0 p 3) 3 p t) k (leaveH h k p (szk (c 3 p)) (puk (c 3 p)) t) ∧ FrD k h (leaveH h k p (szk (c 3 p)) (puk (c 3 p)) t) := by
  obtain ⟨⟨a1, a2, a3, a4, a5⟩, ⟨w, w1, w2⟩, ⟨d1, d2, d3, d4⟩, hP, hO, f1, f2, hF⟩ := x
  have hi := hO p hp h2
  have ap := leaveH_app h (szk (c 3 p)) (puk (c 3 p)) t (by omega : p < 12) hi hpt
  have e0 : ∀ q, nu (nu σ 0 p 3) 3 p t 0 q = if q = p then 3 else σ 0 q := fun q => by simp [nu_app]
  have e3 : ∀ q, nu (nu σ 0 p 3) 3 p t 3 q = if q = p then t else σ 3 q := fun q => by simp [nu_app]
  have eo : ∀ a q, a ≠ 0 → a ≠ 3 → nu (nu σ 0 p 3) 3 p t a q = σ a q := fun a q x0 x3 => by simp [nu_app, x0, x3]
  have hps := push_leave c σ t hp h2
  refine ⟨⟨⟨?_, ?_, ?_, ?_, ?_⟩, ⟨w, ?_, fun q hq => ?_⟩, ⟨?_, ?_, ?_, ?_⟩, fun i hi4 => ⟨?_, ?_⟩, fun q hq hq2 => ?_, ?_, ?_, fun q hq => ⟨?_, ?_, ?_, ?_⟩⟩, fun a b nd => ?_⟩
  · rw [ap, if_neg (by omega), if_neg (by omega), if_neg (by omega), if_neg (by omega), if_neg (by omega), if_neg (by omega), a1]
    refine ms_ext (fun q _ => ?_)
    unfold inSt
    rw [e0]
    by_cases y : q = p
    · subst y; simp [h2]
    · simp [y]
  · rw [ap, if_neg (by omega), if_neg (by omega), if_pos ⟨rfl, rfl⟩, a2, pk_sub (by omega)]
    congr 1
    omega
  · rw [ap, if_neg (by omega), if_neg (by omega), if_neg (by omega), if_neg (by omega), if_neg (by omega), if_neg (by omega), a3, eo 8 1 (by decide) (by decide)]
  · rw [ap, if_neg (by omega), if_neg (by omega), if_neg (by omega), if_neg (by omega), if_neg (by omega), if_neg (by omega), a4, eo 8 2 (by decide) (by decide)]
  · rw [ap, if_neg (by omega), if_neg (by omega), if_neg (by omega), if_neg (by omega), if_neg (by omega), if_neg (by omega), a5, eo 8 5 (by decide) (by decide)]
  · rw [ap, if_neg (by omega), if_neg (by omega), if_neg (by omega), if_neg (by omega), if_neg (by omega), if_neg (by omega), w1]
  · rw [e0, eo 6 q (by decide) (by decide)]
    by_cases y : q = p
    · rw [if_pos y]
      exact ⟨fun _ => by omega, fun z => absurd z (by decide)⟩
    · rw [if_neg y]
      exact w2 q hq
  · rw [ap, if_neg (by omega), if_neg (by omega), if_neg (by omega), if_neg (by omega), if_neg (by omega), if_neg (by omega), d1, eo 8 0 (by decide) (by decide)]
  · rw [ap, if_neg (by omega), if_neg (by omega), if_neg (by omega), if_pos ⟨rfl, rfl⟩, d2, ms_one (by omega), ms_andn]
    refine ms_ext (fun q _ => ?_)
    unfold inSt
    rw [e0]
    by_cases y : q = p
    · subst y; simp
    · simp [y]
  · rw [ap, if_neg (by omega), if_neg (by omega), if_neg (by omega), if_neg (by omega), if_neg (by omega), if_neg (by omega), d3, eo 8 4 (by decide) (by decide)]
  · rw [ap, if_neg (by omega), if_neg (by omega), if_neg (by omega), if_neg (by omega), if_neg (by omega), if_neg (by omega), d4, eo 8 3 (by decide) (by decide)]
  · have eP : ∀ q, inP c (nu (nu σ 0 p 3) 3 p t) i q = (inP c σ i q && !(decide (q = p))) := fun q => by
      unfold inP
      rw [e0, eo 1 q (by decide) (by decide)]
      by_cases y : q = p
      · subst y; simp
      · simp [y]
    rw [ap, if_neg (by omega), if_neg (by omega), if_neg (by omega), if_neg (by omega), if_neg (by omega)]
    by_cases y : i = σ 1 p
    · rw [if_pos ⟨rfl, y⟩, ← y, (hP i hi4).1, ms_one (by omega), ms_andn]
      exact ms_ext (fun q _ => (eP q).symm)
    · rw [if_neg (fun z => y z.2), (hP i hi4).1]
      refine ms_ext (fun q _ => ?_)
      rw [eP]
      by_cases z : q = p
      · subst z
        have : inP c σ i q = false := by unfold inP; simp; intro _ _ w; exact y w.symm
        rw [this]; rfl
      · simp [z]
  · have eu := used_leave c σ t i hp h2
    rw [ap, if_neg (by omega), if_neg (by omega), if_neg (by omega), if_neg (by omega)]
    by_cases y : i = σ 1 p
    · rw [if_pos ⟨rfl, y⟩, ← y, (hP i hi4).2, nI_add]
      rw [if_pos y.symm] at eu
      rw [← y] at hu
      congr 1
      omega
    · rw [if_neg (fun z => y z.2), if_neg (by omega), (hP i hi4).2]
      rw [if_neg (fun z => y z.symm), Nat.add_zero] at eu
      rw [eu]
  · rw [e0] at hq2
    by_cases y : q = p
    · rw [if_pos y] at hq2; cases hq2
    · rw [if_neg y] at hq2
      rw [ap, if_neg (by omega), if_neg (by omega), if_neg (by omega), if_neg (by omega), if_neg (by omega), if_neg (by omega), hO q hq hq2, eo 1 q (by decide) (by decide)]
  · rw [ap, if_pos ⟨rfl, rfl⟩, f1, ms_one (by omega), ms_or]
    refine ms_ext (fun q _ => ?_)
    unfold inSt
    rw [e0]
    by_cases y : q = p
    · subst y; simp [hp]
    · simp [y]
  · rw [ap, if_neg (by omega), if_neg (by omega), if_neg (by omega), if_neg (by omega), if_neg (by omega), if_neg (by omega), f2]
    exact ms_ext (fun q _ => by rw [eo 5 q (by decide) (by decide)])
  · rw [ap, if_neg (by omega), if_neg (by omega), if_neg (by omega), if_neg (by omega), if_neg (by omega), if_neg (by omega), (hF q hq).1, eo 2 q (by decide) (by decide)]
  · rw [ap, if_neg (by omega), if_neg (by omega), if_neg (by omega), if_neg (by omega), if_neg (by omega), if_neg (by omega), (hF q hq).2.1]
    unfold qE
    rw [e0, eo 4 q (by decide) (by decide)]
    by_cases y : q = p
    · subst y; rw [if_pos rfl, h2]; rfl
    · rw [if_neg y]
  · rw [ap, if_neg (by omega), e3]
    by_cases y : q = p
    · rw [if_pos ⟨rfl, y⟩, if_pos y]
    · rw [if_neg (fun z => y z.2), if_neg (by omega), if_neg (by omega), if_neg (by omega), if_neg (by omega), if_neg y, (hF q hq).2.2.1]
  · rw [ap, if_neg (by omega), if_neg (by omega), if_neg (by omega), if_neg (by omega), if_neg (by omega), if_neg (by omega), (hF q hq).2.2.2]
    exact ms_ext (fun j _ => by rw [eo (20 + q) j (by omega) (by omega)])
  · unfold dynP at nd
    rw [ap, if_neg (by omega), if_neg (by omega), if_neg (by omega), if_neg (by omega), if_neg (by omega), if_neg (by omega)]
