/-! masks of twelve bits, by what they hold -/
def mk (p : Nat → Bool) : Nat → Nat
  | 0 => 0
  | n + 1 => mk p n ||| (if p n then 2 ^ n else 0)
theorem mk_bit (p : Nat → Bool) : ∀ n i, (mk p n).testBit i = (decide (i < n) && p i)
  | 0, i => by simp [mk]
  | n + 1, i => by
    rw [mk, Nat.testBit_or, mk_bit p n i]
    by_cases h : p n = true
    · rw [if_pos h, Nat.testBit_two_pow]
      by_cases e : n = i
      · subst e
        simp [h]
      · have e2 : decide (i < n + 1) = decide (i < n) := by
          apply decide_eq_decide.mpr
          omega
        simp [e, e2]
    · rw [if_neg h, Nat.zero_testBit, Bool.or_false]
      by_cases e : n = i
      · subst e
        simp at h
        simp [h]
      · have e2 : decide (i < n + 1) = decide (i < n) := by
          apply decide_eq_decide.mpr
          omega
        rw [e2]
theorem mk_lt (p : Nat → Bool) (n : Nat) : mk p n < 2 ^ n := Nat.lt_pow_two_of_testBit _ (fun i hi => by
  rw [mk_bit]
  have e : decide (i < n) = false := by simpa using hi
  rw [e]; rfl)
def ms (p : Nat → Bool) : Int32 := nI (mk p 12)
theorem mk_lt12 (p : Nat → Bool) : mk p 12 < 4096 := mk_lt p 12
theorem ms_ext {p q : Nat → Bool} (h : ∀ i, i < 12 → p i = q i) : ms p = ms q := by
  unfold ms
  congr 1
  apply Nat.eq_of_testBit_eq
  intro i
  rw [mk_bit, mk_bit]
  by_cases e : i < 12
  · simp [e, h i e]
  · simp [e]
theorem ms_inj {p q : Nat → Bool} (h : ms p = ms q) : ∀ i, i < 12 → p i = q i := by
  intro i hi
  have e : mk p 12 = mk q 12 := (nI_eq (Nat.lt_trans (mk_lt12 p) (by decide)) (Nat.lt_trans (mk_lt12 q) (by decide))).mp h
  have e2 := congrArg (fun m => Nat.testBit m i) e
  simp only [mk_bit] at e2
  simpa [hi] using e2
theorem mk_none : ∀ n, mk (fun _ => false) n = 0
  | 0 => rfl
  | n + 1 => by rw [mk, mk_none n]; simp
theorem ms_0 {p : Nat → Bool} : ms p = 0 ↔ ∀ i, i < 12 → p i = false := by
  constructor
  · intro h i hi
    have e : ms p = ms (fun _ => false) := by rw [h]; unfold ms; rw [mk_none]; rfl
    exact ms_inj e i hi
  · intro h
    rw [ms_ext (q := fun _ => false) h]
    unfold ms
    rw [mk_none]
    rfl
theorem ms_none : ms (fun _ => false) = 0 := ms_0.mpr (fun _ _ => rfl)
theorem ms_or (p q : Nat → Bool) : ms p ||| ms q = ms (fun i => p i || q i) := by
  unfold ms
  rw [fa_or]
  congr 1
  apply Nat.eq_of_testBit_eq
  intro i
  rw [Nat.testBit_or, mk_bit, mk_bit, mk_bit]
  cases decide (i < 12) <;> simp
theorem ms_and (p q : Nat → Bool) : ms p &&& ms q = ms (fun i => p i && q i) := by
  unfold ms
  rw [fa_and]
  congr 1
  apply Nat.eq_of_testBit_eq
  intro i
  rw [Nat.testBit_and, mk_bit, mk_bit, mk_bit]
  cases decide (i < 12) <;> simp
theorem ms_m1 : (-1 : Int32) = nI (2 ^ 32 - 1) := by decide +kernel
theorem ms_andn (p q : Nat → Bool) : ms p &&& (ms q ^^^ (-1)) = ms (fun i => p i && !(q i)) := by
  unfold ms
  rw [ms_m1, fb_xorI, fa_and]
  congr 1
  apply Nat.eq_of_testBit_eq
  intro i
  rw [Nat.testBit_and, Nat.testBit_xor, Nat.testBit_two_pow_sub_one, mk_bit, mk_bit, mk_bit]
  by_cases e : i < 12
  · have e2 : i < 32 := by omega
    simp [e, e2]
  · simp [e]
theorem jshl1 {i : Nat} (h : i < 31) : jshl 1 (nI i) = nI (2 ^ i) := (by decide +kernel : ∀ i, i < 31 → jshl 1 (nI i) = nI (2 ^ i)) i h
theorem ms_one {i : Nat} (h : i < 12) : jshl 1 (nI i) = ms (fun j => decide (j = i)) := by
  rw [jshl1 (by omega)]
  unfold ms
  congr 1
  apply Nat.eq_of_testBit_eq
  intro j
  rw [mk_bit, Nat.testBit_two_pow]
  by_cases e : i = j
  · subst e
    simp [h]
  · have e2 : ¬ j = i := fun z => e z.symm
    simp [e, e2]
theorem jshr_nI {m i : Nat} (hm : m < 2 ^ 31) (hi : i < 32) : jshr (nI m) (nI i) = nI (m / 2 ^ i) := pk_shrN hm _ i ((by decide +kernel : ∀ i, i < 32 → ((nI i &&& 31).toBitVec.smod 32).toNat = i) i hi)
theorem ms_bit (p : Nat → Bool) {i : Nat} (h : i < 12) : jshr (ms p) (nI i) &&& 1 = if p i then 1 else 0 := by
  unfold ms
  rw [jshr_nI (Nat.lt_trans (mk_lt12 p) (by decide)) (by omega), show (1 : Int32) = nI 1 from rfl, fa_and, Nat.and_one_is_mod]
  have e := mk_bit p 12 i
  rw [Nat.testBit_eq_decide_div_mod_eq] at e
  simp only [h, decide_true, Bool.true_and] at e
  by_cases q : p i = true
  · rw [q] at e
    have e := of_decide_eq_true e
    rw [e, if_pos q]
  · have q2 : p i = false := by simpa using q
    rw [q2] at e
    have e := of_decide_eq_false e
    rw [if_neg q, (by omega : mk p 12 / 2 ^ i % 2 = 0)]
    rfl
theorem ms_shr (p : Nat → Bool) {i : Nat} (h : i < 12) : jshr (ms p) (nI i) = 0 ↔ ∀ j, i ≤ j → j < 12 → p j = false := by
  unfold ms
  have hl := mk_lt12 p
  rw [jshr_nI (Nat.lt_trans hl (by decide)) (by omega), show (0 : Int32) = nI 0 from rfl, nI_eq (Nat.lt_of_le_of_lt (Nat.div_le_self _ _) (Nat.lt_trans hl (by decide))) (by decide)]
  constructor
  · intro e j h1 h2
    have e2 := mk_bit p 12 j
    rw [Nat.testBit_eq_decide_div_mod_eq] at e2
    have e3 : mk p 12 / 2 ^ j = 0 := by
      have : 2 ^ j = 2 ^ i * 2 ^ (j - i) := by rw [← Nat.pow_add]; congr 1; omega
      rw [this, ← Nat.div_div_eq_div_mul, e, Nat.zero_div]
    rw [e3] at e2
    simpa [h2] using e2.symm
  · intro g
    have : mk p 12 < 2 ^ i := Nat.lt_pow_two_of_testBit _ (fun j hj => by
      rw [mk_bit]
      by_cases q : j < 12
      · simp [q, g j hj q]
      · simp [q])
    exact Nat.div_eq_of_lt this
theorem ms_all {n : Nat} (h : n ≤ 12) : jshl 1 (nI n) - 1 = ms (fun j => decide (j < n)) := (by decide +kernel : ∀ n, n < 13 → jshl 1 (nI n) - 1 = ms (fun j => decide (j < n))) n (by omega)
theorem mk_succ (p : Nat → Bool) (n : Nat) : mk p (n + 1) = mk p n ||| (if p n then 2 ^ n else 0) := rfl
theorem mk_cong {p q : Nat → Bool} : ∀ {n : Nat}, (∀ i, i < n → p i = q i) → mk p n = mk q n
  | 0, _ => rfl
  | n + 1, h => by rw [mk, mk, mk_cong (fun i hi => h i (by omega)), h n (by omega)]
/-- a mask of the first n alone is one of twelve -/
theorem mk_ms {p : Nat → Bool} {n : Nat} (h : n ≤ 12) : nI (mk p n) = ms (fun i => decide (i < n) && p i) := by
  unfold ms
  congr 1
  apply Nat.eq_of_testBit_eq
  intro i
  rw [mk_bit, mk_bit]
  by_cases e : i < n
  · have e2 : i < 12 := by omega
    simp [e, e2]
  · simp [e]
/-- one more bit of a mask, as the loops have it -/
theorem mk_step {p : Nat → Bool} {i : Nat} (h : i < 12) : nI (mk p i) ||| (if p i then jshl 1 (nI i) else 0) = nI (mk p (i + 1)) := by
  rw [mk_succ]
  by_cases q : p i = true
  · rw [if_pos q, if_pos q, jshl1 (by omega), fa_or]
  · rw [if_neg q, if_neg q, show (0 : Int32) = nI 0 from rfl, fa_or]
