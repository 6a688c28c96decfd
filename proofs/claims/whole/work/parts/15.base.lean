/-! results of methods that change nothing, or just so much -/
def b2i (p : Prop) [Decidable p] : Int32 := if p then 1 else 0
theorem b2i_01 (p : Prop) [Decidable p] : b2i p = 0 ∨ b2i p = 1 := by unfold b2i; split <;> simp
theorem ite_01 (p : Prop) [Decidable p] : ((if p then 1 else 0 : Int32) = 0) ∨ ((if p then 1 else 0 : Int32) = 1) := by split <;> simp
theorem b2i_0 {p : Prop} [Decidable p] : b2i p = 0 ↔ ¬ p := by unfold b2i; split <;> simp [*]
theorem b2i_1 {p : Prop} [Decidable p] : b2i p = 1 ↔ p := by unfold b2i; split <;> simp [*]
theorem b2i_c {p q : Prop} [Decidable p] [Decidable q] (h : p ↔ q) : b2i p = b2i q := by
  unfold b2i
  by_cases z : p
  · rw [if_pos z, if_pos (h.mp z)]
  · rw [if_neg z, if_neg (fun y => z (h.mpr y))]
theorem b2i_ite {p : Prop} [Decidable p] {α : Sort _} (a b : α) : (if b2i p = 0 then a else b) = if p then b else a := by
  by_cases z : p
  · rw [if_pos z, if_neg (fun y => b2i_0.mp y z)]
  · rw [if_neg z, if_pos (b2i_0.mpr z)]
def eR (v : Int32) (h : td_H) : td_P := fun r h1 => r = some (.int v) ∧ h1 = h
theorem eR_k {v : Int32} {h : td_H} {F : Option Value → td_H → Prop} (k : F (some (.int v)) h) : ∀ r h1, eR v h r h1 → F r h1 := by
  rintro _ _ ⟨rfl, rfl⟩
  exact k
def eV (h : td_H) : td_P := fun r h1 => r = none ∧ h1 = h
theorem eV_k {h : td_H} {F : Option Value → td_H → Prop} (k : F none h) : ∀ r h1, eV h r h1 → F r h1 := by
  rintro _ _ ⟨rfl, rfl⟩
  exact k
/-- a loop that counts, from where it begins -/
theorem td_for {G : td_G} {d : Nat} {M : td_M} {Post : td_P} {pc : Nat} {lv : List (Nat × Value)} {st : List Value} {h : td_H} (N : Nat) (Sl : Nat → List (Nat × Value)) (Sh : Nat → td_H) (h0 : lv = Sl 0) (h1 : h = Sh 0) (hs : ∀ i, i < N → td_J G d M Post pc (Sl (i + 1)) st (Sh (i + 1)) → td_J G d M Post pc (Sl i) st (Sh i)) (hN : td_J G d M Post pc (Sl N) st (Sh N)) : td_J G d M Post pc lv st h := by
  subst h0; subst h1
  exact td_loop (St := fun i => (Sl i, st, Sh i)) N hs hN
theorem td_to {G : td_G} {d : Nat} {M : td_M} {Post : td_P} {pc : Nat} {lv lv2 : List (Nat × Value)} {st st2 : List Value} {h h2 : td_H} (k : td_J G d M Post pc lv2 st2 h2) (e1 : lv = lv2) (e2 : st = st2) (e3 : h = h2) : td_J G d M Post pc lv st h := by
  subst e1; subst e2; subst e3
  exact k
theorem ixn {i : Nat} (h : i < 2 ^ 31) : ix (nI i) = i := nI_clamp h
theorem le_of {a b : Nat} (c : nI a ≤ nI b) (ha : a < 2 ^ 31 := by omega) (hb : b < 2 ^ 31 := by omega) : a ≤ b := (nI_leI ha hb).mp c
theorem nle_of {a b : Nat} (c : ¬ nI a ≤ nI b) (ha : a < 2 ^ 31 := by omega) (hb : b < 2 ^ 31 := by omega) : b < a := Nat.not_le.mp fun q => c ((nI_leI ha hb).mpr q)
theorem lt_of {a b : Nat} (c : nI a < nI b) (ha : a < 2 ^ 31 := by omega) (hb : b < 2 ^ 31 := by omega) : a < b := (nI_ltI ha hb).mp c
theorem nlt_of {a b : Nat} (c : ¬ nI a < nI b) (ha : a < 2 ^ 31 := by omega) (hb : b < 2 ^ 31 := by omega) : b ≤ a := Nat.not_lt.mp fun q => c ((nI_ltI ha hb).mpr q)
theorem eq_of {a b : Nat} (c : nI a = nI b) (ha : a < 2 ^ 31 := by omega) (hb : b < 2 ^ 31 := by omega) : a = b := (nI_eq ha hb).mp c
theorem hu_app (h : td_H) (k j : Nat) (v : Int32) (a b : Nat) : hu h k j v a b = if a = k ∧ b = j then v else h a b := by
  by_cases e : a = k
  · subst e
    rw [hu_s]
    unfold upd
    by_cases q : b = j
    · rw [if_pos q, if_pos ⟨rfl, q⟩]
    · rw [if_neg q, if_neg (fun z => q z.2)]
  · rw [hu_n _ _ _ e, if_neg (fun z => e z.1)]
theorem ite_c {p q : Prop} [Decidable p] [Decidable q] (h : p ↔ q) {α : Sort _} (a b : α) : (if p then a else b) = if q then a else b := by
  by_cases z : p
  · rw [if_pos z, if_pos (h.mp z)]
  · rw [if_neg z, if_neg (fun y => z (h.mpr y))]
theorem nI_ite (p : Prop) [Decidable p] (a b : Nat) : (if p then nI a else nI b) = nI (if p then a else b) := by split <;> rfl
