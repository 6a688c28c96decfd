/-! ===== ORDERS: who, when, which is best ===== -/
theorem okR_at {K i : Nat} : ∀ {n : Nat}, okR K i n = true → ∀ j, j < n → okP K (i + j) = true
  | 0, _, j, hj => absurd hj (by omega)
  | n + 1, h, j, hj => by
    have h : (okP K (i + n) && okR K i n) = true := h
    rw [Bool.and_eq_true] at h
    rcases Nat.lt_or_ge j n with y | y
    · exact okR_at h.2 j y
    · rw [show j = n by omega]; exact h.1
theorem fct_v : fct 1 = 1 ∧ fct 2 = 2 ∧ fct 3 = 6 ∧ fct 4 = 24 ∧ fct 5 = 120 ∧ fct 6 = 720 := by decide
theorem prm_ok {K i : Nat} (h1 : 1 ≤ K) (h6 : K ≤ 6) (hi : i < fct K) : okP K i = true := by
  obtain ⟨f1, f2, f3, f4, f5, f6⟩ := fct_v
  rcases (by omega : K = 1 ∨ K = 2 ∨ K = 3 ∨ K = 4 ∨ K = 5 ∨ K = 6) with z | z | z | z | z | z <;> subst z
  · have := okR_at ok_1 i (by omega); rwa [Nat.zero_add] at this
  · have := okR_at ok_2 i (by omega); rwa [Nat.zero_add] at this
  · have := okR_at ok_3 i (by omega); rwa [Nat.zero_add] at this
  · have := okR_at ok_4 i (by omega); rwa [Nat.zero_add] at this
  · have := okR_at ok_5 i (by omega); rwa [Nat.zero_add] at this
  · rcases (by omega : i < 120 ∨ (120 ≤ i ∧ i < 240) ∨ (240 ≤ i ∧ i < 360) ∨ (360 ≤ i ∧ i < 480) ∨ (480 ≤ i ∧ i < 600) ∨ 600 ≤ i) with y | y | y | y | y | y
    · have := okR_at ok_6a i (by omega); rwa [Nat.zero_add] at this
    · have := okR_at ok_6b (i - 120) (by omega); rwa [show 120 + (i - 120) = i by omega] at this
    · have := okR_at ok_6c (i - 240) (by omega); rwa [show 240 + (i - 240) = i by omega] at this
    · have := okR_at ok_6d (i - 360) (by omega); rwa [show 360 + (i - 360) = i by omega] at this
    · have := okR_at ok_6e (i - 480) (by omega); rwa [show 480 + (i - 480) = i by omega] at this
    · have := okR_at ok_6f (i - 600) (by omega); rwa [show 600 + (i - 600) = i by omega] at this
theorem prm_facts {K i : Nat} (h1 : 1 ≤ K) (h6 : K ≤ 6) (hi : i < fct K) : (flF (prm K i) (K - 1) = 0 ↔ i + 1 = fct K) ∧ (∀ a, a < K → prm K i a < K) ∧ (i + 1 ≠ fct K → ∀ a, a < K → nxF K (prm K i) a = prm K (i + 1) a) ∧ (∀ a b, a < K → b < K → prm K i b = prm K i a → b = a) ∧ (∀ a, a < K - 1 → prm K i (a + 1) < prm K i a → rkS K i a < i ∧ ∀ b, b < K → prm K (rkS K i a) b = swp (prm K i) a (a + 1) b) := by
  have z := prm_ok h1 h6 hi
  unfold okP at z
  rw [Bool.and_eq_true, Bool.and_eq_true, allB_iff, allB_iff] at z
  obtain ⟨z1, z2, z3⟩ := z
  have z1 : decide (flF (prm K i) (K - 1) = 0) = decide (i + 1 = fct K) := by simpa using z1
  refine ⟨?_, fun a ha => ?_, fun hn a ha => ?_, fun a b ha hb e => ?_, fun a ha hd => ?_⟩
  · constructor
    · intro y; rw [y] at z1; simpa using z1.symm
    · intro y; rw [decide_eq_true y] at z1; simpa using z1
  · have y := z2 a ha
    rw [Bool.and_eq_true, Bool.and_eq_true] at y
    simpa using y.1.1
  · have y := z2 a ha
    rw [Bool.and_eq_true, Bool.and_eq_true] at y
    have w := y.1.2
    rw [Bool.or_eq_true] at w
    rcases w with w | w
    · exact absurd (by simpa using w) hn
    · simpa using w
  · have y := z2 a ha
    rw [Bool.and_eq_true, allB_iff] at y
    have w := y.2 b hb
    rw [Bool.or_eq_true] at w
    rcases w with w | w
    · simpa using w
    · simp [e] at w
  · have y := z3 a ha
    rw [Bool.or_eq_true] at y
    rcases y with y | y
    · simp [hd] at y
    · rw [Bool.and_eq_true, allB_iff] at y
      refine ⟨by simpa using y.1, fun b hb => ?_⟩
      simpa using y.2 b hb
def bits (v p : Nat) : Bool := v.testBit p
def popc (v : Nat) : Nat := fb_ct (bits v) 12
def wh (v k : Nat) : Nat := fa_first (fun p => bits v p && decide (fb_ct (bits v) p = k)) 12
theorem wh_of {v p : Nat} (hp : p < 12) (hb : bits v p = true) : wh v (fb_ct (bits v) p) = p := by
  have yes : (fun q => bits v q && decide (fb_ct (bits v) q = fb_ct (bits v) p)) p = true := by simp [hb]
  have le : wh v (fb_ct (bits v) p) ≤ p := by
    rcases Nat.lt_or_ge p (wh v (fb_ct (bits v) p)) with y | y
    · have := fa_first_no _ 12 p y
      simp [hb] at this
    · exact y
  have z := fa_first_yes (fun q => bits v q && decide (fb_ct (bits v) q = fb_ct (bits v) p)) 12 (by unfold wh at le; omega)
  have z : (bits v (wh v (fb_ct (bits v) p)) && decide (fb_ct (bits v) (wh v (fb_ct (bits v) p)) = fb_ct (bits v) p)) = true := z
  rw [Bool.and_eq_true] at z
  exact fb_ct_kth_one z.1 hb (by simpa using z.2)
theorem wh_in {v k : Nat} (hk : k < popc v) : wh v k < 12 ∧ bits v (wh v k) = true ∧ fb_ct (bits v) (wh v k) = k := by
  obtain ⟨i, hi, hb, e⟩ := fb_ct_kth hk
  have z := wh_of hi hb
  rw [e] at z
  rw [z]
  exact ⟨hi, hb, e⟩
theorem wh_lt {v a b : Nat} (ha : a < popc v) (hb : b < popc v) : wh v a < wh v b ↔ a < b := by
  obtain ⟨-, -, ea⟩ := wh_in ha
  obtain ⟨-, -, eb⟩ := wh_in hb
  constructor
  · intro h
    have m := fb_ct_mono (bits v) (Nat.le_of_lt h)
    rcases Nat.lt_or_ge a b with y | y
    · exact y
    · have : a = b := by omega
      subst this
      omega
  · intro h
    rcases Nat.lt_or_ge (wh v a) (wh v b) with y | y
    · exact y
    · have m := fb_ct_mono (bits v) y
      omega
theorem wh_n {v n k : Nat} (hv : v < 2 ^ n) (hk : k < popc v) : wh v k < n := by
  have z := (wh_in hk).2.1
  rcases Nat.lt_or_ge (wh v k) n with y | y
  · exact y
  · have : bits v (wh v k) = false := Nat.testBit_lt_two_pow (Nat.lt_of_lt_of_le hv (Nat.pow_le_pow_right (by decide) y))
    rw [this] at z; cases z
/-- ticks, in their order -/
def inP' (f : Nat → Nat) (x : Nat) : Nat → Nat
  | 0 => 0
  | u + 1 => if f u ≤ x then u + 1 else inP' f x u
def inS (k : Nat) (f : Nat → Nat) (x : Nat) : Nat → Nat := fun i => if i < inP' f x k then f i else if i = inP' f x k then x else f (i - 1)
def tkF (g : nH) (v : Nat) : Nat → Nat → Nat
  | 0 => fun _ => 0
  | k + 1 => inS k (tkF g v k) (g 4 (wh v k))
theorem inP_le (f : Nat → Nat) (x : Nat) : ∀ u, inP' f x u ≤ u
  | 0 => Nat.le_refl _
  | u + 1 => by
    unfold inP'
    split
    · exact Nat.le_refl _
    · have := inP_le f x u; omega
theorem tkF_lt {g : nH} {v n : Nat} (hv : v < 2 ^ n) (hg : ∀ p, p < n → g 4 p < 120) : ∀ k, k ≤ popc v → ∀ i, tkF g v k i < 120
  | 0, _, _ => by show 0 < 120; decide
  | k + 1, hk, i => by
    have ih := tkF_lt hv hg k (by omega)
    show inS k (tkF g v k) (g 4 (wh v k)) i < 120
    unfold inS
    split
    · exact ih i
    · split
      · exact hg _ (wh_n hv (by omega))
      · exact ih _
def posn (K i x : Nat) : Nat := fa_first (fun a => decide (prm K i a = x)) K
theorem posn_of {K i a : Nat} (h1 : 1 ≤ K) (h6 : K ≤ 6) (hi : i < fct K) (ha : a < K) : posn K i (prm K i a) = a := by
  have le : posn K i (prm K i a) ≤ a := by
    rcases Nat.lt_or_ge a (posn K i (prm K i a)) with y | y
    · have := fa_first_no (fun b => decide (prm K i b = prm K i a)) K a y
      simp at this
    · exact y
  have z := fa_first_yes (fun b => decide (prm K i b = prm K i a)) K (by unfold posn at le; omega)
  have z : prm K i (posn K i (prm K i a)) = prm K i a := by unfold posn; simpa using z
  exact (prm_facts h1 h6 hi).2.2.2.1 a _ ha (by omega) z
theorem prm_onto {K i x : Nat} (h1 : 1 ≤ K) (h6 : K ≤ 6) (hi : i < fct K) (hx : x < K) : ∃ a, a < K ∧ prm K i a = x := by
  obtain ⟨-, f2, -, f4, -⟩ := prm_facts h1 h6 hi
  exact fb_onto f2 (fun a b hab hb e => by have := f4 b a hb (by omega) e; omega) hx
/-- the plan with the i-th row -/
def cfgO (g : nH) (v i : Nat) : nH := fun a b => if a = 4 ∧ b < 12 ∧ bits v b = true then tkF g v (popc v) (posn (popc v) i (fb_ct (bits v) b)) else g a b
theorem cfgO_o (g : nH) (v i a b : Nat) (h : a ≠ 4) : cfgO g v i a b = g a b := by unfold cfgO; rw [if_neg (fun z => h z.1)]
theorem cfgO_4n (g : nH) (v i b : Nat) (h : ¬ bits v b = true) : cfgO g v i 4 b = g 4 b := by unfold cfgO; rw [if_neg (fun z => h z.2.2)]
theorem cfgO_4 (g : nH) {v i a : Nat} (h1 : 1 ≤ popc v) (h6 : popc v ≤ 6) (hi : i < fct (popc v)) (ha : a < popc v) : cfgO g v i 4 (wh v (prm (popc v) i a)) = tkF g v (popc v) a := by
  obtain ⟨w1, w2, w3⟩ := wh_in ((prm_facts h1 h6 hi).2.1 a ha)
  unfold cfgO
  rw [if_pos ⟨rfl, w1, w2⟩, w3, posn_of h1 h6 hi ha]
theorem cfgO_wf {g : nH} (x : wfC g) {v : Nat} (hv : v < 2 ^ g 1 0) (i : Nat) : wfC (cfgO g v i) := by
  obtain ⟨b0, b1, b2, b3, b4, b5, b6, b7, b8, b9, b10⟩ := x
  unfold wfC
  simp only [cfgO_o g v i 0 _ (by decide), cfgO_o g v i 1 _ (by decide), cfgO_o g v i 2 _ (by decide), cfgO_o g v i 3 _ (by decide)]
  refine ⟨b0, b1, b2, b3, b4, b5, b6, b7, b8, b9, fun p hp => ⟨(b10 p hp).1, (b10 p hp).2.1, ?_⟩⟩
  unfold cfgO
  split
  · exact tkF_lt hv (fun q hq => (b10 q hq).2.2) _ (Nat.le_refl _) _
  · exact (b10 p hp).2.2
/-- two who come at one tick change places: no other plan -/
theorem cfgO_same {g : nH} {v i a : Nat} (h1 : 1 ≤ popc v) (h6 : popc v ≤ 6) (hi : i < fct (popc v)) (ha : a + 1 < popc v) (ht : tkF g v (popc v) a = tkF g v (popc v) (a + 1)) (hd : prm (popc v) i (a + 1) < prm (popc v) i a) : rkS (popc v) i a < i ∧ cfgO g v (rkS (popc v) i a) = cfgO g v i := by
  obtain ⟨r1, r2⟩ := (prm_facts h1 h6 hi).2.2.2.2 a (by omega) hd
  refine ⟨r1, ?_⟩
  have hi' : rkS (popc v) i a < fct (popc v) := by omega
  funext x y
  by_cases z : x = 4 ∧ y < 12 ∧ bits v y = true
  · have hx : fb_ct (bits v) y < popc v := by
      have := fb_ct_mono (bits v) (show y + 1 ≤ 12 by omega)
      rw [fb_ct_succ, if_pos z.2.2] at this
      show fb_ct (bits v) y < fb_ct (bits v) 12
      omega
    obtain ⟨b, hb, eb⟩ := prm_onto h1 h6 hi hx
    have e1 : cfgO g v i x y = tkF g v (popc v) b := by
      unfold cfgO
      rw [if_pos z, ← eb, posn_of h1 h6 hi hb]
    -- where it stands in the other row
    have go : ∀ b', b' < popc v → prm (popc v) (rkS (popc v) i a) b' = fb_ct (bits v) y → cfgO g v (rkS (popc v) i a) x y = tkF g v (popc v) b' := fun b' hb' e => by
      unfold cfgO
      rw [if_pos z, ← e, posn_of h1 h6 hi' hb']
    rw [e1]
    by_cases c1 : b = a
    · rw [go (a + 1) ha (by rw [r2 _ ha, ← eb, c1]; unfold swp; rw [if_neg (by omega), if_pos rfl]), c1, ht]
    · by_cases c2 : b = a + 1
      · rw [go a (by omega) (by rw [r2 _ (by omega), ← eb, c2]; unfold swp; rw [if_pos rfl]), c2, ht]
      · exact go b hb (by rw [r2 _ hb, ← eb]; unfold swp; rw [if_neg c1, if_neg c2])
  · unfold cfgO
    rw [if_neg z, if_neg z]
def lO (g : nH) (v i : Nat) : Nat := lastE (cfgO g v i)
def wE (c : nH) : Nat := fb_sm (fun p => waitE c (sRun c 120) p) (c 1 0)
def wO (g : nH) (v i : Nat) : Nat := wE (cfgO g v i)
def btr (g : nH) (v i j : Nat) : Prop := lO g v i < lO g v j ∨ (lO g v i = lO g v j ∧ wO g v i < wO g v j)
/-- the best of the first m + 1 rows -/
def bO (g : nH) (v : Nat) : Nat → Nat
  | 0 => 0
  | m + 1 => if lO g v (m + 1) < lO g v (bO g v m) ∨ (lO g v (m + 1) = lO g v (bO g v m) ∧ wO g v (m + 1) < wO g v (bO g v m)) then m + 1 else bO g v m
theorem bO_le (g : nH) (v : Nat) : ∀ m, bO g v m ≤ m
  | 0 => Nat.le_refl _
  | m + 1 => by
    unfold bO
    split
    · exact Nat.le_refl _
    · have := bO_le g v m; omega
theorem bO_min (g : nH) (v : Nat) : ∀ m j, j ≤ m → ¬ btr g v j (bO g v m)
  | 0, j, hj => by
    have : j = 0 := by omega
    subst this
    show ¬ btr g v 0 0
    unfold btr
    omega
  | m + 1, j, hj => by
    have ih := bO_min g v m
    unfold bO
    by_cases y : lO g v (m + 1) < lO g v (bO g v m) ∨ (lO g v (m + 1) = lO g v (bO g v m) ∧ wO g v (m + 1) < wO g v (bO g v m))
    · rw [if_pos y]
      rcases Nat.lt_or_ge j (m + 1) with z | z
      · have w := ih j (by omega)
        unfold btr at w ⊢
        omega
      · have : j = m + 1 := by omega
        subst this
        unfold btr
        omega
    · rw [if_neg y]
      rcases Nat.lt_or_ge j (m + 1) with z | z
      · exact ih j (by omega)
      · have : j = m + 1 := by omega
        subst this
        exact y
/-- the rows make no difference where they are the same plan -/
theorem bO_skip {g : nH} {v m j : Nat} (hj : j ≤ m) (e : cfgO g v j = cfgO g v (m + 1)) : bO g v (m + 1) = bO g v m := by
  have z := bO_min g v m j hj
  have el : lO g v j = lO g v (m + 1) := by unfold lO; rw [e]
  have ew : wO g v j = wO g v (m + 1) := by unfold wO; rw [e]
  unfold btr at z
  show (if lO g v (m + 1) < lO g v (bO g v m) ∨ (lO g v (m + 1) = lO g v (bO g v m) ∧ wO g v (m + 1) < wO g v (bO g v m)) then m + 1 else bO g v m) = bO g v m
  rw [if_neg (by rw [← el, ← ew]; exact z)]
