/-! Model: the part for one, pushes, a step -/
theorem td_forH {G : td_G} {d : Nat} {M : td_M} {Post : td_P} {pc : Nat} {lv : List (Nat × Value)} {st : List Value} {h : td_H} (N : Nat) (Sl : Nat → List (Nat × Value)) (P : Nat → td_H → Prop) (h0 : lv = Sl 0) (h1 : P 0 h) (hs : ∀ i, i < N → ∀ h, P i h → (∀ h', P (i + 1) h' → td_J G d M Post pc (Sl (i + 1)) st h') → td_J G d M Post pc (Sl i) st h) (hN : ∀ h, P N h → td_J G d M Post pc (Sl N) st h) : td_J G d M Post pc lv st h := by
  subst h0
  have z : ∀ n i, i + n = N → ∀ h, P i h → td_J G d M Post pc (Sl i) st h := by
    intro n
    induction n with
    | zero => intro i hi h hp; rw [Nat.add_zero] at hi; subst hi; exact hN h hp
    | succ n ih => intro i hi h hp; exact hs i (by omega) h hp (fun h' hp' => ih (i + 1) (by omega) h' hp')
  exact z N 0 (Nat.zero_add N) h h1
theorem byX {α : Sort _} (P : α → Prop) {a : α} (b : α) (e : a = b) (h : P b) : P a := e ▸ h
/-- nothing but the run's own places has changed -/
def simP (a b : Nat) : Prop := (91 ≤ a ∧ a ≤ 98) ∨ (a = 85 ∧ 17 ≤ b ∧ b ≤ 22)
def Fr (h h' : td_H) : Prop := ∀ a b, ¬ simP a b → h' a b = h a b
theorem Fr.rf (h : td_H) : Fr h h := fun _ _ _ => rfl
theorem Fr.tr {h h1 h2 : td_H} (x : Fr h h1) (y : Fr h1 h2) : Fr h h2 := fun a b n => (y a b n).trans (x a b n)
theorem Fr.put {h h1 : td_H} (x : Fr h h1) {a b : Nat} (hp : simP a b) (v : Int32) : Fr h (hu h1 a b v) := fun a' b' n => by
  rw [hu_app, if_neg (fun z => n (by rw [z.1, z.2]; exact hp))]
  exact x a' b' n
theorem Fr.C {c : nH} {h h1 : td_H} (x : Fr h h1) (hc : rmC c h) : rmC c h1 := by
  obtain ⟨w, a1, a2, a3, a4⟩ := hc
  refine ⟨w, fun i hi => ?_, ?_, fun p hp => ?_, ?_⟩
  · rw [x 87 i (by unfold simP; omega)]; exact a1 i hi
  · rw [x 86 9 (by unfold simP; omega)]; exact a2
  · rw [x 86 _ (by unfold simP; omega), x 86 _ (by unfold simP; omega), x 88 p (by unfold simP; omega)]
    exact a3 p hp
  · rw [x 85 2 (by unfold simP; omega)]; exact a4
theorem rmP.k {σ σ' : nH} {h h' : td_H} {p : Nat} (x : rmP σ h p) (e1 : ∀ a, a ≠ 8 → ∀ b, σ' a b = σ a b) (e2 : ∀ a, 91 ≤ a → a ≤ 98 → ∀ b, h' a b = h a b) : rmP σ' h' p := by
  unfold rmP at x ⊢
  simp only [e1 0 (by decide), e1 1 (by decide), e1 2 (by decide), e1 3 (by decide), e1 4 (by decide), e1 5 (by decide), e1 6 (by decide), e1 (20 + p) (by omega), e2 91 (by decide) (by decide), e2 92 (by decide) (by decide), e2 93 (by decide) (by decide), e2 94 (by decide) (by decide), e2 95 (by decide) (by decide), e2 96 (by decide) (by decide), e2 97 (by decide) (by decide), e2 98 (by decide) (by decide)]
  exact x
theorem rmS.kk {σ : nH} {h : td_H} (x : rmS σ h) (j v : Nat) (y : Int32) (s : Nat) (hk : rmK (nu σ 8 j v) (hu h 85 s y)) : rmS (nu σ 8 j v) (hu h 85 s y) :=
  ⟨fun p hp => (x.1 p hp).k (fun a ha b => by rw [nu_app, if_neg (fun z => ha z.1)]) (fun a h1 h2 b => by rw [hu_app, if_neg (by omega)]), hk⟩
theorem rmS.turn {σ : nH} {h : td_H} (x : rmS σ h) {v : Nat} (hv : v < 12) : rmS (nu σ 8 0 v) (hu h 85 17 (nI v)) := x.kk _ _ _ _ (by
  obtain ⟨⟨a1, a2⟩, ⟨b1, b2⟩, ⟨c1, c2⟩, d1, d2, d3⟩ := x.2
  unfold rmK
  simp [hu_app, nu_app, *])
theorem rmS.speed {σ : nH} {h : td_H} (x : rmS σ h) {v : Nat} (hv : v ≤ 3) : rmS (nu σ 8 1 v) (hu h 85 18 (nI v)) := x.kk _ _ _ _ (by
  obtain ⟨⟨a1, a2⟩, ⟨b1, b2⟩, ⟨c1, c2⟩, d1, d2, d3⟩ := x.2
  unfold rmK
  simp [hu_app, nu_app, *])
theorem rmS.stuck {σ : nH} {h : td_H} (x : rmS σ h) {v : Nat} (hv : v ≤ 9) : rmS (nu σ 8 2 v) (hu h 85 19 (nI v)) := x.kk _ _ _ _ (by
  obtain ⟨⟨a1, a2⟩, ⟨b1, b2⟩, ⟨c1, c2⟩, d1, d2, d3⟩ := x.2
  unfold rmK
  simp [hu_app, nu_app, *])
theorem rmS.warm {σ : nH} {h : td_H} (x : rmS σ h) (v : Nat) : rmS (nu σ 8 3 v) (hu h 85 20 (nI v)) := x.kk _ _ _ _ (by
  obtain ⟨⟨a1, a2⟩, ⟨b1, b2⟩, ⟨c1, c2⟩, d1, d2, d3⟩ := x.2
  unfold rmK
  simp [hu_app, nu_app, *])
theorem rmS.steps {σ : nH} {h : td_H} (x : rmS σ h) (v : Nat) : rmS (nu σ 8 4 v) (hu h 85 21 (nI v)) := x.kk _ _ _ _ (by
  obtain ⟨⟨a1, a2⟩, ⟨b1, b2⟩, ⟨c1, c2⟩, d1, d2, d3⟩ := x.2
  unfold rmK
  simp [hu_app, nu_app, *])
theorem rmS.stills {σ : nH} {h : td_H} (x : rmS σ h) (v : Nat) : rmS (nu σ 8 5 v) (hu h 85 22 (nI v)) := x.kk _ _ _ _ (by
  obtain ⟨⟨a1, a2⟩, ⟨b1, b2⟩, ⟨c1, c2⟩, d1, d2, d3⟩ := x.2
  unfold rmK
  simp [hu_app, nu_app, *])
/-- one row of one person -/
theorem rmS.pp {σ : nH} {h : td_H} (x : rmS σ h) (r p v s : Nat) (y : Int32) (hr : r ≤ 6) (hs : 91 ≤ s ∧ s ≤ 98) (hp : p < 12 → rmP σ h p → rmP (nu σ r p v) (hu h s p y) p) : rmS (nu σ r p v) (hu h s p y) := by
  refine ⟨fun q hq => ?_, ?_⟩
  · by_cases e : q = p
    · subst e
      exact hp hq (x.1 q hq)
    · have z := x.1 q hq
      unfold rmP at z ⊢
      have e1 : ∀ a, nu σ r p v a q = σ a q := fun a => by rw [nu_app, if_neg (fun y => e y.2)]
      have e2 : ∀ a, hu h s p y a q = h a q := fun a => by rw [hu_app, if_neg (fun y => e y.2)]
      have e3 : ∀ b, nu σ r p v (20 + q) b = σ (20 + q) b := fun b => by rw [nu_app, if_neg (by omega)]
      simp only [e1, e2, e3]
      exact z
  · have z := x.2
    unfold rmK at z ⊢
    have e1 : ∀ b, nu σ r p v 8 b = σ 8 b := fun b => by rw [nu_app, if_neg (by omega)]
    have e2 : ∀ b, hu h s p y 85 b = h 85 b := fun b => by rw [hu_app, if_neg (by omega)]
    simp only [e1, e2]
    exact z
theorem rmS.st {σ : nH} {h : td_H} (x : rmS σ h) (p : Nat) {v : Nat} (hv : v < 4) (h2 : v ≠ 2) : rmS (nu σ 0 p v) (hu h 91 p (nI v)) := x.pp 0 p v 91 _ (by decide) (by decide) (fun _ z => by
  have e3 : ∀ q, nu σ 0 p v (20 + p) q = σ (20 + p) q := fun q => by rw [nu_app, if_neg (by omega)]
  unfold rmP at z ⊢
  simp only [e3]
  simp [hu_app, nu_app, h2, hv] at z ⊢
  exact ⟨z.2.2.1, z.2.2.2.1, z.2.2.2.2.1, z.2.2.2.2.2.1, z.2.2.2.2.2.2.1, z.2.2.2.2.2.2.2⟩)
theorem rmS.thr {σ : nH} {h : td_H} (x : rmS σ h) (p v : Nat) : rmS (nu σ 3 p v) (hu h 94 p (nn v)) := x.pp 3 p v 94 _ (by decide) (by decide) (fun _ z => by
  have e3 : ∀ q, nu σ 3 p v (20 + p) q = σ (20 + p) q := fun q => by rw [nu_app, if_neg (by omega)]
  unfold rmP at z ⊢
  simp only [e3]
  simp [hu_app, nu_app] at z ⊢
  exact ⟨z.1, z.2.1, z.2.2.1, z.2.2.2.2.1, z.2.2.2.2.2.1, z.2.2.2.2.2.2.1, z.2.2.2.2.2.2.2⟩)
theorem rmS.inAt {σ : nH} {h : td_H} (x : rmS σ h) (p v : Nat) : rmS (nu σ 2 p v) (hu h 93 p (nn v)) := x.pp 2 p v 93 _ (by decide) (by decide) (fun _ z => by
  have e3 : ∀ q, nu σ 2 p v (20 + p) q = σ (20 + p) q := fun q => by rw [nu_app, if_neg (by omega)]
  unfold rmP at z ⊢
  simp only [e3]
  simp [hu_app, nu_app] at z ⊢
  exact ⟨z.1, z.2.1, z.2.2.2.1, z.2.2.2.2.1, z.2.2.2.2.2.1, z.2.2.2.2.2.2.1, z.2.2.2.2.2.2.2⟩)
theorem rmS.wait {σ : nH} {h : td_H} (x : rmS σ h) (p v : Nat) : rmS (nu σ 4 p v) (hu h 95 p (nI v)) := x.pp 4 p v 95 _ (by decide) (by decide) (fun _ z => by
  have e3 : ∀ q, nu σ 4 p v (20 + p) q = σ (20 + p) q := fun q => by rw [nu_app, if_neg (by omega)]
  unfold rmP at z ⊢
  simp only [e3]
  simp [hu_app, nu_app] at z ⊢
  exact ⟨z.1, z.2.1, z.2.2.1, z.2.2.2.1, z.2.2.2.2.2.1, z.2.2.2.2.2.2.1, z.2.2.2.2.2.2.2⟩)
theorem rmS.cau {σ : nH} {h : td_H} (x : rmS σ h) (p v : Nat) : rmS (nu σ 5 p v) (hu h 96 p (nI v)) := x.pp 5 p v 96 _ (by decide) (by decide) (fun _ z => by
  have e3 : ∀ q, nu σ 5 p v (20 + p) q = σ (20 + p) q := fun q => by rw [nu_app, if_neg (by omega)]
  unfold rmP at z ⊢
  simp only [e3]
  simp [hu_app, nu_app] at z ⊢
  exact ⟨z.1, z.2.1, z.2.2.1, z.2.2.2.1, z.2.2.2.2.1, z.2.2.2.2.2.2.1, z.2.2.2.2.2.2.2⟩)
theorem rmS.daz {σ : nH} {h : td_H} (x : rmS σ h) (p : Nat) {v : Nat} (hv : v < 3) : rmS (nu σ 6 p v) (hu h 97 p (nI v)) := x.pp 6 p v 97 _ (by decide) (by decide) (fun _ z => by
  have e3 : ∀ q, nu σ 6 p v (20 + p) q = σ (20 + p) q := fun q => by rw [nu_app, if_neg (by omega)]
  unfold rmP at z ⊢
  simp only [e3]
  simp [hu_app, nu_app, hv] at z ⊢
  exact ⟨z.1, z.2.1, z.2.2.1, z.2.2.2.1, z.2.2.2.2.1, z.2.2.2.2.2.1, z.2.2.2.2.2.2.2⟩)
theorem sub_lt {a b s : Nat} (ha : a < 2 ^ 30) (hb : b < 2 ^ 30) (hs : s < 2 ^ 30) : nI a - nI b < nI s ↔ a < b + s := by
  rw [fa_lt, pk_sub_toInt ha hb, nI_toInt (by omega)]
  omega
theorem sub_le0 {a b : Nat} (ha : a < 2 ^ 30) (hb : b < 2 ^ 30) : nI a - nI b ≤ 0 ↔ a ≤ b := by
  rw [fa_le, pk_sub_toInt ha hb, Int32.toInt_zero]
  omega
theorem prtF_lt (c σ : nH) (p : Nat) : ∀ i, prtF c σ p i = 12 ∨ prtF c σ p i < i
  | 0 => Or.inl rfl
  | i + 1 => by
    unfold prtF
    split
    · exact Or.inr (by omega)
    · rcases prtF_lt c σ p i with z | z
      · exact Or.inl z
      · exact Or.inr (by omega)
set_option maxRecDepth 20000 in
set_option maxHeartbeats 4000000 in
theorem gX10_partFor_0 {G : td_G} {d : Nat} {Post : td_P} {x1 : Int32} {h : td_H} (K : vp_in ((10 + (3 * x1)) + 2) 46 ∧ (vp_in ((10 + (3 * x1)) + 1) 46 ∧ (td_J G (d + 3) mX10_partFor Post 21 [(0, .ref 85), (1, .int x1), (2, .int (h 86 (ix ((10 + (3 * x1)) + 2)))), (3, .int (h 86 (ix ((10 + (3 * x1)) + 1)))), (4, .int (-4)), (5, .int 0)] [] h))) : td_J G (d + 3) mX10_partFor Post 0 [(0, .ref 85), (1, .int x1)] [] h := by
  refine td_aload_n 0 dX10_partFor_0 rfl ?_
  refine td_iload_n 1 dX10_partFor_1 rfl ?_
  refine td_iconst (v := 2) dX10_partFor_2 (by decide) ?_
  obtain ⟨e3_0, K⟩ := K
  refine cl_X10_94 rfl kp_85 dX10_partFor_3 (Nat.le_of_ble_eq_true rfl) (c_of x1 2 e3_0) (eR_k ?_)
  refine td_eqs (st2 := [.int (h 86 (ix ((10 + (3 * x1)) + 2)))]) rfl ?_
  refine td_istore_n (lv2 := [(0, .ref 85), (1, .int x1), (2, .int (h 86 (ix ((10 + (3 * x1)) + 2))))]) dX10_partFor_6 (by decide) rfl ?_
  refine td_aload_n 0 dX10_partFor_7 rfl ?_
  refine td_iload_n 1 dX10_partFor_8 rfl ?_
  refine td_iconst (v := 1) dX10_partFor_9 (by decide) ?_
  obtain ⟨e10_0, K⟩ := K
  refine cl_X10_94 rfl kp_85 dX10_partFor_10 (Nat.le_of_ble_eq_true rfl) (c_of x1 1 e10_0) (eR_k ?_)
  refine td_eqs (st2 := [.int (h 86 (ix ((10 + (3 * x1)) + 1)))]) rfl ?_
  refine td_istore_n (lv2 := [(0, .ref 85), (1, .int x1), (2, .int (h 86 (ix ((10 + (3 * x1)) + 2)))), (3, .int (h 86 (ix ((10 + (3 * x1)) + 1))))]) dX10_partFor_13 (by decide) rfl ?_
  refine td_bipush (v := (-4)) dX10_partFor_14 (by decide) ?_
  refine td_istore (lv2 := [(0, .ref 85), (1, .int x1), (2, .int (h 86 (ix ((10 + (3 * x1)) + 2)))), (3, .int (h 86 (ix ((10 + (3 * x1)) + 1)))), (4, .int (-4))]) dX10_partFor_16 (by decide) rfl ?_
  refine td_iconst (v := 0) dX10_partFor_18 (by decide) ?_
  refine td_istore (lv2 := [(0, .ref 85), (1, .int x1), (2, .int (h 86 (ix ((10 + (3 * x1)) + 2)))), (3, .int (h 86 (ix ((10 + (3 * x1)) + 1)))), (4, .int (-4)), (5, .int 0)]) dX10_partFor_19 (by decide) rfl ?_
  exact K
set_option maxRecDepth 20000 in
set_option maxHeartbeats 4000000 in
theorem gX10_partFor_21 {G : td_G} {d : Nat} {Post : td_P} {c σ : nH} {x1 x2 x3 x4 x5 : Int32} {h : td_H} (K : ((h 87 0) ≤ x5 → (Post (some (.int (if x2 = 1 then if (h 85 18) < 2 then x4 else (-4) else if x2 = 2 then if (h 85 18) < 2 then x4 else (-4) else x4 : Int32))) h)) ∧ (¬ (h 87 0) ≤ x5 → (rmC c h ∧ vp_in x5 4 ∧ vp_in x3 2 ∧ vp_in (h 85 17) 12 ∧ ((¬ (b2i (opn c (ix x5) (ix x3) (ix (h 85 17)) = true)) = 0 → (rmS σ h ∧ True)) ∧ ((¬ (if (b2i (opn c (ix x5) (ix x3) (ix (h 85 17)) = true)) = 0 then 0 else if (nI (c 0 2) - nI (used c σ (ix x5))) < (szI x2) then 0 else if x2 = 3 then if (b2i (grown c σ (ix x5) = true)) = 0 then 0 else 1 else 1 : Int32) = 0 → (¬ x4 < 0 → (vp_in x4 4 ∧ True))) ∧ (td_J G (d + 3) mX10_partFor Post 21 [(0, .ref 85), (1, .int x1), (2, .int x2), (3, .int x3), (4, .int (if (if (b2i (opn c (ix x5) (ix x3) (ix (h 85 17)) = true)) = 0 then 0 else if (nI (c 0 2) - nI (used c σ (ix x5))) < (szI x2) then 0 else if x2 = 3 then if (b2i (grown c σ (ix x5) = true)) = 0 then 0 else 1 else 1 : Int32) = 0 then x4 else if x4 < 0 then x5 else if (nI (share (c 0 0) (ix x5) (ix x3) (ix (h 85 17)))) ≤ (nI (share (c 0 0) (ix x4) (ix x3) (ix (h 85 17)))) then x4 else x5 : Int32)), (5, .int (x5 + 1))] [] h)))))) : td_J G (d + 3) mX10_partFor Post 21 [(0, .ref 85), (1, .int x1), (2, .int x2), (3, .int x3), (4, .int x4), (5, .int x5)] [] h := by
  refine td_iload 5 dX10_partFor_21 rfl ?_
  refine td_aload_n 0 dX10_partFor_23 rfl ?_
  refine gf_X10_13 rfl kp_85 dX10_partFor_24 ?_
  refine td_iconst (v := 0) dX10_partFor_27 (by decide) ?_
  refine td_ialdc (j := 0) kp_87 (by decide) (by unfold vp_in; decide) (by decide) dX10_partFor_28 ?_
  obtain ⟨Kt, Kf⟩ := K
  refine td_icmp_ge (tgt := 130) dX10_partFor_29 (by decide) (fun q29 => ?_) (fun q29 => ?_)
  · have K := Kt q29
    refine td_iload_n 2 dX10_partFor_130 rfl ?_
    refine td_iconst (v := 1) dX10_partFor_131 (by decide) ?_
    have KJ155 : td_J G (d + 3) mX10_partFor Post 155 [(0, .ref 85), (1, .int x1), (2, .int x2), (3, .int x3), (4, .int x4), (5, .int x5)] [.int (if x2 = 1 then if (h 85 18) < 2 then x4 else (-4) else if x2 = 2 then if (h 85 18) < 2 then x4 else (-4) else x4 : Int32)] h := by
      exact td_ireturn rfl dX10_partFor_155 K
    refine td_icmp_eq (tgt := 140) dX10_partFor_132 (by decide) (fun q132 => ?_) (fun q132 => ?_)
    · skip
      refine td_aload_n 0 dX10_partFor_140 rfl ?_
      refine gf_X10_173 rfl kp_85 dX10_partFor_141 ?_
      refine td_iconst (v := 2) dX10_partFor_144 (by decide) ?_
      refine td_icmp_lt (tgt := 153) dX10_partFor_145 (by decide) (fun q145 => ?_) (fun q145 => ?_)
      · skip
        refine td_iload 4 dX10_partFor_153 rfl ?_
        exact td_to KJ155 rfl (by rw [show (if x2 = 1 then if (h 85 18) < 2 then x4 else (-4) else if x2 = 2 then if (h 85 18) < 2 then x4 else (-4) else x4 : Int32) = _ from (if_pos q132).trans (if_pos q145)]) rfl
      · skip
        refine td_bipush (v := (-4)) dX10_partFor_148 (by decide) ?_
        refine td_goto (tgt := 155) dX10_partFor_150 (by decide) ?_
        exact td_to KJ155 rfl (by rw [show (if x2 = 1 then if (h 85 18) < 2 then x4 else (-4) else if x2 = 2 then if (h 85 18) < 2 then x4 else (-4) else x4 : Int32) = _ from (if_pos q132).trans (if_neg q145)]) rfl
    · skip
      refine td_iload_n 2 dX10_partFor_135 rfl ?_
      refine td_iconst (v := 2) dX10_partFor_136 (by decide) ?_
      refine td_icmp_ne (tgt := 153) dX10_partFor_137 (by decide) (fun q137 => ?_) (fun q137 => ?_)
      · skip
        refine td_iload 4 dX10_partFor_153 rfl ?_
        exact td_to KJ155 rfl (by rw [show (if x2 = 1 then if (h 85 18) < 2 then x4 else (-4) else if x2 = 2 then if (h 85 18) < 2 then x4 else (-4) else x4 : Int32) = _ from (if_neg q132).trans (if_neg q137)]) rfl
      · skip
        refine td_aload_n 0 dX10_partFor_140 rfl ?_
        refine gf_X10_173 rfl kp_85 dX10_partFor_141 ?_
        refine td_iconst (v := 2) dX10_partFor_144 (by decide) ?_
        refine td_icmp_lt (tgt := 153) dX10_partFor_145 (by decide) (fun q145 => ?_) (fun q145 => ?_)
        · skip
          refine td_iload 4 dX10_partFor_153 rfl ?_
          exact td_to KJ155 rfl (by rw [show (if x2 = 1 then if (h 85 18) < 2 then x4 else (-4) else if x2 = 2 then if (h 85 18) < 2 then x4 else (-4) else x4 : Int32) = _ from (if_neg q132).trans ((if_pos q137).trans (if_pos q145))]) rfl
        · skip
          refine td_bipush (v := (-4)) dX10_partFor_148 (by decide) ?_
          refine td_goto (tgt := 155) dX10_partFor_150 (by decide) ?_
          exact td_to KJ155 rfl (by rw [show (if x2 = 1 then if (h 85 18) < 2 then x4 else (-4) else if x2 = 2 then if (h 85 18) < 2 then x4 else (-4) else x4 : Int32) = _ from (if_neg q132).trans ((if_pos q137).trans (if_neg q145))]) rfl
  · have K := Kf q29
    refine td_aload_n 0 dX10_partFor_32 rfl ?_
    refine td_iload 5 dX10_partFor_33 rfl ?_
    refine td_iload_n 3 dX10_partFor_35 rfl ?_
    refine td_aload_n 0 dX10_partFor_36 rfl ?_
    refine gf_X10_176 rfl kp_85 dX10_partFor_37 ?_
    obtain ⟨e40_0, K⟩ := K
    obtain ⟨e40_1, K⟩ := K
    obtain ⟨e40_2, K⟩ := K
    obtain ⟨e40_3, K⟩ := K
    refine cl_X10_107 rfl kp_85 dX10_partFor_40 (Nat.le_of_ble_eq_true rfl) (c_isOpen c x5 x3 (h 85 17) e40_0 e40_1 e40_2 e40_3) (eR_k ?_)
    refine td_eqs (st2 := [.int (b2i (opn c (ix x5) (ix x3) (ix (h 85 17)) = true))]) rfl ?_
    obtain ⟨Ks43, K⟩ := K
    have KJ78 : td_J G (d + 3) mX10_partFor Post 78 [(0, .ref 85), (1, .int x1), (2, .int x2), (3, .int x3), (4, .int x4), (5, .int x5)] [.int (if (b2i (opn c (ix x5) (ix x3) (ix (h 85 17)) = true)) = 0 then 0 else if (nI (c 0 2) - nI (used c σ (ix x5))) < (szI x2) then 0 else if x2 = 3 then if (b2i (grown c σ (ix x5) = true)) = 0 then 0 else 1 else 1 : Int32)] h := by
      refine td_istore (lv2 := [(0, .ref 85), (1, .int x1), (2, .int x2), (3, .int x3), (4, .int x4), (5, .int x5), (6, .int (if (b2i (opn c (ix x5) (ix x3) (ix (h 85 17)) = true)) = 0 then 0 else if (nI (c 0 2) - nI (used c σ (ix x5))) < (szI x2) then 0 else if x2 = 3 then if (b2i (grown c σ (ix x5) = true)) = 0 then 0 else 1 else 1 : Int32))]) dX10_partFor_78 (by decide) rfl ?_
      refine td_iload 6 dX10_partFor_80 rfl ?_
      obtain ⟨Ks82, K⟩ := K
      have KJ122 : td_J G (d + 3) mX10_partFor Post 122 [(0, .ref 85), (1, .int x1), (2, .int x2), (3, .int x3), (4, .int x4), (5, .int x5), (6, .int (if (b2i (opn c (ix x5) (ix x3) (ix (h 85 17)) = true)) = 0 then 0 else if (nI (c 0 2) - nI (used c σ (ix x5))) < (szI x2) then 0 else if x2 = 3 then if (b2i (grown c σ (ix x5) = true)) = 0 then 0 else 1 else 1 : Int32))] [.int (if (if (b2i (opn c (ix x5) (ix x3) (ix (h 85 17)) = true)) = 0 then 0 else if (nI (c 0 2) - nI (used c σ (ix x5))) < (szI x2) then 0 else if x2 = 3 then if (b2i (grown c σ (ix x5) = true)) = 0 then 0 else 1 else 1 : Int32) = 0 then x4 else if x4 < 0 then x5 else if (nI (share (c 0 0) (ix x5) (ix x3) (ix (h 85 17)))) ≤ (nI (share (c 0 0) (ix x4) (ix x3) (ix (h 85 17)))) then x4 else x5 : Int32)] h := by
        refine td_istore (lv2 := [(0, .ref 85), (1, .int x1), (2, .int x2), (3, .int x3), (4, .int (if (if (b2i (opn c (ix x5) (ix x3) (ix (h 85 17)) = true)) = 0 then 0 else if (nI (c 0 2) - nI (used c σ (ix x5))) < (szI x2) then 0 else if x2 = 3 then if (b2i (grown c σ (ix x5) = true)) = 0 then 0 else 1 else 1 : Int32) = 0 then x4 else if x4 < 0 then x5 else if (nI (share (c 0 0) (ix x5) (ix x3) (ix (h 85 17)))) ≤ (nI (share (c 0 0) (ix x4) (ix x3) (ix (h 85 17)))) then x4 else x5 : Int32)), (5, .int x5), (6, .int (if (b2i (opn c (ix x5) (ix x3) (ix (h 85 17)) = true)) = 0 then 0 else if (nI (c 0 2) - nI (used c σ (ix x5))) < (szI x2) then 0 else if x2 = 3 then if (b2i (grown c σ (ix x5) = true)) = 0 then 0 else 1 else 1 : Int32))]) dX10_partFor_122 (by decide) rfl ?_
        refine td_iinc 5 (v := x5 + 1) (lv2 := [(0, .ref 85), (1, .int x1), (2, .int x2), (3, .int x3), (4, .int (if (if (b2i (opn c (ix x5) (ix x3) (ix (h 85 17)) = true)) = 0 then 0 else if (nI (c 0 2) - nI (used c σ (ix x5))) < (szI x2) then 0 else if x2 = 3 then if (b2i (grown c σ (ix x5) = true)) = 0 then 0 else 1 else 1 : Int32) = 0 then x4 else if x4 < 0 then x5 else if (nI (share (c 0 0) (ix x5) (ix x3) (ix (h 85 17)))) ≤ (nI (share (c 0 0) (ix x4) (ix x3) (ix (h 85 17)))) then x4 else x5 : Int32)), (5, .int (x5 + 1)), (6, .int (if (b2i (opn c (ix x5) (ix x3) (ix (h 85 17)) = true)) = 0 then 0 else if (nI (c 0 2) - nI (used c σ (ix x5))) < (szI x2) then 0 else if x2 = 3 then if (b2i (grown c σ (ix x5) = true)) = 0 then 0 else 1 else 1 : Int32))]) dX10_partFor_124 rfl (congrArg (x5 + ·) (by decide)) (by decide) rfl ?_
        refine td_goto (tgt := 21) dX10_partFor_127 (by decide) ?_
        refine td_drop (lv2 := [(0, .ref 85), (1, .int x1), (2, .int x2), (3, .int x3), (4, .int (if (if (b2i (opn c (ix x5) (ix x3) (ix (h 85 17)) = true)) = 0 then 0 else if (nI (c 0 2) - nI (used c σ (ix x5))) < (szI x2) then 0 else if x2 = 3 then if (b2i (grown c σ (ix x5) = true)) = 0 then 0 else 1 else 1 : Int32) = 0 then x4 else if x4 < 0 then x5 else if (nI (share (c 0 0) (ix x5) (ix x3) (ix (h 85 17)))) ≤ (nI (share (c 0 0) (ix x4) (ix x3) (ix (h 85 17)))) then x4 else x5 : Int32)), (5, .int (x5 + 1))]) [0, 1, 2, 3, 4, 5] rfl ?_
        exact K
      refine td_if_eq (tgt := 120) dX10_partFor_82 (by decide) (fun q82 => ?_) (fun q82 => ?_)
      · skip
        refine td_iload 4 dX10_partFor_120 rfl ?_
        exact td_to KJ122 rfl (by rw [show (if (if (b2i (opn c (ix x5) (ix x3) (ix (h 85 17)) = true)) = 0 then 0 else if (nI (c 0 2) - nI (used c σ (ix x5))) < (szI x2) then 0 else if x2 = 3 then if (b2i (grown c σ (ix x5) = true)) = 0 then 0 else 1 else 1 : Int32) = 0 then x4 else if x4 < 0 then x5 else if (nI (share (c 0 0) (ix x5) (ix x3) (ix (h 85 17)))) ≤ (nI (share (c 0 0) (ix x4) (ix x3) (ix (h 85 17)))) then x4 else x5 : Int32) = _ from if_pos q82]) rfl
      · have K := Ks82 q82
        refine td_iload 4 dX10_partFor_85 rfl ?_
        refine td_if_lt (tgt := 115) dX10_partFor_87 (by decide) (fun q87 => ?_) (fun q87 => ?_)
        · skip
          refine td_iload 5 dX10_partFor_115 rfl ?_
          refine td_goto (tgt := 122) dX10_partFor_117 (by decide) ?_
          exact td_to KJ122 rfl (by rw [show (if (if (b2i (opn c (ix x5) (ix x3) (ix (h 85 17)) = true)) = 0 then 0 else if (nI (c 0 2) - nI (used c σ (ix x5))) < (szI x2) then 0 else if x2 = 3 then if (b2i (grown c σ (ix x5) = true)) = 0 then 0 else 1 else 1 : Int32) = 0 then x4 else if x4 < 0 then x5 else if (nI (share (c 0 0) (ix x5) (ix x3) (ix (h 85 17)))) ≤ (nI (share (c 0 0) (ix x4) (ix x3) (ix (h 85 17)))) then x4 else x5 : Int32) = _ from (if_neg q82).trans (if_pos q87)]) rfl
        · have K := K q87
          refine td_aload_n 0 dX10_partFor_90 rfl ?_
          refine td_iload 5 dX10_partFor_91 rfl ?_
          refine td_iload_n 3 dX10_partFor_93 rfl ?_
          refine td_aload_n 0 dX10_partFor_94 rfl ?_
          refine gf_X10_176 rfl kp_85 dX10_partFor_95 ?_
          refine cl_X10_86 rfl kp_85 dX10_partFor_98 (Nat.le_of_ble_eq_true rfl) (c_shareOf c x5 x3 (h 85 17) e40_0 e40_1 e40_2 e40_3) (eR_k ?_)
          refine td_eqs (st2 := [.int (nI (share (c 0 0) (ix x5) (ix x3) (ix (h 85 17))))]) rfl ?_
          refine td_aload_n 0 dX10_partFor_101 rfl ?_
          refine td_iload 4 dX10_partFor_102 rfl ?_
          refine td_iload_n 3 dX10_partFor_104 rfl ?_
          refine td_aload_n 0 dX10_partFor_105 rfl ?_
          refine gf_X10_176 rfl kp_85 dX10_partFor_106 ?_
          obtain ⟨e109_1, K⟩ := K
          refine cl_X10_86 rfl kp_85 dX10_partFor_109 (Nat.le_of_ble_eq_true rfl) (c_shareOf c x4 x3 (h 85 17) e40_0 e109_1 e40_2 e40_3) (eR_k ?_)
          refine td_eqs (st2 := [.int (nI (share (c 0 0) (ix x4) (ix x3) (ix (h 85 17)))), .int (nI (share (c 0 0) (ix x5) (ix x3) (ix (h 85 17))))]) rfl ?_
          refine td_icmp_le (tgt := 120) dX10_partFor_112 (by decide) (fun q112 => ?_) (fun q112 => ?_)
          · skip
            refine td_iload 4 dX10_partFor_120 rfl ?_
            exact td_to KJ122 rfl (by rw [show (if (if (b2i (opn c (ix x5) (ix x3) (ix (h 85 17)) = true)) = 0 then 0 else if (nI (c 0 2) - nI (used c σ (ix x5))) < (szI x2) then 0 else if x2 = 3 then if (b2i (grown c σ (ix x5) = true)) = 0 then 0 else 1 else 1 : Int32) = 0 then x4 else if x4 < 0 then x5 else if (nI (share (c 0 0) (ix x5) (ix x3) (ix (h 85 17)))) ≤ (nI (share (c 0 0) (ix x4) (ix x3) (ix (h 85 17)))) then x4 else x5 : Int32) = _ from (if_neg q82).trans ((if_neg q87).trans (if_pos q112))]) rfl
          · skip
            refine td_iload 5 dX10_partFor_115 rfl ?_
            refine td_goto (tgt := 122) dX10_partFor_117 (by decide) ?_
            exact td_to KJ122 rfl (by rw [show (if (if (b2i (opn c (ix x5) (ix x3) (ix (h 85 17)) = true)) = 0 then 0 else if (nI (c 0 2) - nI (used c σ (ix x5))) < (szI x2) then 0 else if x2 = 3 then if (b2i (grown c σ (ix x5) = true)) = 0 then 0 else 1 else 1 : Int32) = 0 then x4 else if x4 < 0 then x5 else if (nI (share (c 0 0) (ix x5) (ix x3) (ix (h 85 17)))) ≤ (nI (share (c 0 0) (ix x4) (ix x3) (ix (h 85 17)))) then x4 else x5 : Int32) = _ from (if_neg q82).trans ((if_neg q87).trans (if_neg q112))]) rfl
    refine td_if_eq (tgt := 77) dX10_partFor_43 (by decide) (fun q43 => ?_) (fun q43 => ?_)
    · skip
      refine td_iconst (v := 0) dX10_partFor_77 (by decide) ?_
      exact td_to KJ78 rfl (by rw [show (if (b2i (opn c (ix x5) (ix x3) (ix (h 85 17)) = true)) = 0 then 0 else if (nI (c 0 2) - nI (used c σ (ix x5))) < (szI x2) then 0 else if x2 = 3 then if (b2i (grown c σ (ix x5) = true)) = 0 then 0 else 1 else 1 : Int32) = _ from if_pos q43]) rfl
    · have K := Ks43 q43
      refine td_aload_n 0 dX10_partFor_46 rfl ?_
      refine td_iload 5 dX10_partFor_47 rfl ?_
      obtain ⟨e49_1, K⟩ := K
      refine cl_X10_189 rfl kp_85 dX10_partFor_49 (Nat.le_of_ble_eq_true rfl) (c_roomOf c σ x5 e40_0 e49_1 e40_1) (eR_k ?_)
      refine td_eqs (st2 := [.int (nI (c 0 2) - nI (used c σ (ix x5)))]) rfl ?_
      refine td_iload_n 2 dX10_partFor_52 rfl ?_
      refine cl_X10_124 rfl dX10_partFor_53 (Nat.le_of_ble_eq_true rfl) (c_sizeOf x2) (eR_k ?_)
      refine td_eqs (st2 := [.int (szI x2), .int (nI (c 0 2) - nI (used c σ (ix x5)))]) rfl ?_
      refine td_icmp_lt (tgt := 77) dX10_partFor_56 (by decide) (fun q56 => ?_) (fun q56 => ?_)
      · skip
        refine td_iconst (v := 0) dX10_partFor_77 (by decide) ?_
        exact td_to KJ78 rfl (by rw [show (if (b2i (opn c (ix x5) (ix x3) (ix (h 85 17)) = true)) = 0 then 0 else if (nI (c 0 2) - nI (used c σ (ix x5))) < (szI x2) then 0 else if x2 = 3 then if (b2i (grown c σ (ix x5) = true)) = 0 then 0 else 1 else 1 : Int32) = _ from (if_neg q43).trans (if_pos q56)]) rfl
      · skip
        refine td_iload_n 2 dX10_partFor_59 rfl ?_
        refine td_iconst (v := 3) dX10_partFor_60 (by decide) ?_
        refine td_icmp_ne (tgt := 73) dX10_partFor_61 (by decide) (fun q61 => ?_) (fun q61 => ?_)
        · skip
          refine td_iconst (v := 1) dX10_partFor_73 (by decide) ?_
          refine td_goto (tgt := 78) dX10_partFor_74 (by decide) ?_
          exact td_to KJ78 rfl (by rw [show (if (b2i (opn c (ix x5) (ix x3) (ix (h 85 17)) = true)) = 0 then 0 else if (nI (c 0 2) - nI (used c σ (ix x5))) < (szI x2) then 0 else if x2 = 3 then if (b2i (grown c σ (ix x5) = true)) = 0 then 0 else 1 else 1 : Int32) = _ from (if_neg q43).trans ((if_neg q56).trans (if_neg q61))]) rfl
        · skip
          refine td_aload_n 0 dX10_partFor_64 rfl ?_
          refine td_iload 5 dX10_partFor_65 rfl ?_
          refine cl_X10_192 rfl kp_85 dX10_partFor_67 (Nat.le_of_ble_eq_true rfl) (c_hasGrown c σ x5 e40_0 e49_1 e40_1) (eR_k ?_)
          refine td_eqs (st2 := [.int (b2i (grown c σ (ix x5) = true))]) rfl ?_
          refine td_if_eq (tgt := 77) dX10_partFor_70 (by decide) (fun q70 => ?_) (fun q70 => ?_)
          · skip
            refine td_iconst (v := 0) dX10_partFor_77 (by decide) ?_
            exact td_to KJ78 rfl (by rw [show (if (b2i (opn c (ix x5) (ix x3) (ix (h 85 17)) = true)) = 0 then 0 else if (nI (c 0 2) - nI (used c σ (ix x5))) < (szI x2) then 0 else if x2 = 3 then if (b2i (grown c σ (ix x5) = true)) = 0 then 0 else 1 else 1 : Int32) = _ from (if_neg q43).trans ((if_neg q56).trans ((if_pos q61).trans (if_pos q70)))]) rfl
          · skip
            refine td_iconst (v := 1) dX10_partFor_73 (by decide) ?_
            refine td_goto (tgt := 78) dX10_partFor_74 (by decide) ?_
            exact td_to KJ78 rfl (by rw [show (if (b2i (opn c (ix x5) (ix x3) (ix (h 85 17)) = true)) = 0 then 0 else if (nI (c 0 2) - nI (used c σ (ix x5))) < (szI x2) then 0 else if x2 = 3 then if (b2i (grown c σ (ix x5) = true)) = 0 then 0 else 1 else 1 : Int32) = _ from (if_neg q43).trans ((if_neg q56).trans ((if_pos q61).trans (if_neg q70)))]) rfl
theorem c_partFor {G : td_G} {d : Nat} {h : td_H} (c σ : nH) (x1 : Int32) (hc : rmC c h) (hs : rmS σ h) (h1 : vp_in x1 12) (h2 : ix x1 < c 1 0) : td_C G (d + 3) mX10_partFor [.ref 85, .int x1] h (eR (n4 (prt c σ (ix x1))) h) := by
  obtain ⟨p, hp12, rfl⟩ := vp_in_of h1 (by decide)
  have hix : ix (nI p) = p := ixn (by omega)
  rw [hix] at h2 ⊢
  have hn := hc.1.n
  have hL := hc.1.1
  have hR := hc.1.2.2.1
  have hp := hc.1.p h2
  have e0 : h 87 0 = nI (c 0 0) := hc.2.1 0 (by decide)
  obtain ⟨⟨t1, t2⟩, ⟨p1, p2⟩, -⟩ := hs.2
  refine td_entry rfl (Nat.le_of_ble_eq_true rfl) rfl (gX10_partFor_0 ⟨of_in hp12 (w := 2) (by decide), of_in hp12 (w := 1) (by decide), ?_⟩)
  rw [of_1 hc h2, of_2 hc h2]
  refine td_for (c 0 0) (fun k => [(0, .ref 85), (1, .int (nI p)), (2, .int (nI (c 3 p))), (3, .int (nI (c 2 p))), (4, .int (n4 (prtF c σ p k))), (5, .int (nI k))]) (fun _ => h) rfl rfl (fun k hk ih => ?_) ?_
  · have vk : vp_in (nI k) 4 := vp_in_nI (by omega) (by decide)
    have hb := prtF_lt c σ p k
    have hneg := n4_neg (v := prtF c σ p k) (by omega)
    have hbI : ¬ n4 (prtF c σ p k) < 0 → n4 (prtF c σ p k) = nI (prtF c σ p k) ∧ prtF c σ p k < k := fun z => by
      have z2 : prtF c σ p k ≠ 12 := fun y => z (hneg.mpr y)
      exact ⟨by unfold n4; rw [if_neg z2], by omega⟩
    refine gX10_partFor_21 (c := c) (σ := σ) ⟨fun q => absurd (le_of (by rw [e0] at q; exact q)) (by omega), fun _ => ⟨hc, vk, vp_in_nI (by omega) (by decide), by rw [t1]; exact vp_in_nI (by omega) (by decide), fun _ => ⟨hs, trivial⟩, fun _ z => ⟨by rw [(hbI z).1]; exact vp_in_nI (by have := (hbI z).2; omega) (by decide), trivial⟩, ?_⟩⟩
    refine td_to ih ?_ rfl rfl
    have hu36 := used_le c σ k hn
    have hsz := szk_le (c 3 p)
    have hsp := szk_pos (c 3 p)
    have em : (if (b2i (opn c (ix (nI k)) (ix (nI (c 2 p))) (ix (h 85 17)) = true)) = 0 then 0 else if (nI (c 0 2) - nI (used c σ (ix (nI k)))) < (szI (nI (c 3 p))) then 0 else if nI (c 3 p) = 3 then if (b2i (grown c σ (ix (nI k)) = true)) = 0 then 0 else 1 else 1 : Int32) = b2i (mayP c σ p k = true) := by
      rw [b2i_ite, b2i_ite, t1, ixn (by omega), ixn (by omega), ixn (by omega), sz_n hp.2.1, ite_c (sub_lt (by omega) (by omega) (by omega)) _ _, ite_c (p := nI (c 3 p) = 3) (q := c 3 p = 3) (nI_eq (b := 3) (by omega) (by decide)) _ _]
      unfold mayP b2i
      by_cases q1 : opn c k (c 2 p) (σ 8 0) = true
      · rw [if_pos q1]
        by_cases q2 : c 0 2 < used c σ k + szk (c 3 p)
        · rw [if_pos q2, if_neg (by simp [q1]; intro z; omega)]
        · rw [if_neg q2]
          have q4 : szk (c 3 p) ≤ c 0 2 - used c σ k := by omega
          by_cases q3 : c 3 p = 3
          · rw [if_pos q3]
            exact ite_c (by have q5 := q4; rw [q3] at q5; simp [q1, q3, q5]) _ _
          · rw [if_neg q3, if_pos (by simp [q1, q3, q4])]
      · rw [if_neg q1, if_neg (by simp [q1])]
    rw [em, b2i_ite, nI_1, t1]
    refine congrArg (fun z => [(0, Value.ref 85), (1, Value.int (nI p)), (2, Value.int (nI (c 3 p))), (3, Value.int (nI (c 2 p))), (4, Value.int z), (5, Value.int (nI (k + 1)))]) ?_
    show _ = n4 (if mayP c σ p k = true ∧ (prtF c σ p k = 12 ∨ share (c 0 0) (prtF c σ p k) (c 2 p) (σ 8 0) < share (c 0 0) k (c 2 p) (σ 8 0)) then k else prtF c σ p k)
    by_cases q1 : mayP c σ p k = true
    · rw [if_pos q1]
      by_cases q2 : prtF c σ p k = 12
      · rw [if_pos (hneg.mpr q2), if_pos ⟨q1, Or.inl q2⟩]
        unfold n4
        rw [if_neg (by omega)]
      · have z := fun y => q2 (hneg.mp y)
        obtain ⟨z1, z2⟩ := hbI z
        have hw : 12 / c 0 0 ≤ 4 := by
          rcases (by omega : c 0 0 = 3 ∨ c 0 0 = 4) with z | z <;> rw [z] <;> decide
        have s1 := share_le (c 0 0) k (c 2 p) (σ 8 0)
        have s2 := share_le (c 0 0) (prtF c σ p k) (c 2 p) (σ 8 0)
        rw [if_neg z, z1, ixn (by omega), ixn (by omega), ixn (by omega), ixn (by omega)]
        by_cases q3 : share (c 0 0) k (c 2 p) (σ 8 0) ≤ share (c 0 0) (prtF c σ p k) (c 2 p) (σ 8 0)
        · rw [if_pos ((nI_leI (by omega) (by omega)).mpr q3), if_neg (fun y => y.2.elim q2 (by omega))]
          unfold n4
          rw [if_neg q2]
        · rw [if_neg (fun y => q3 (le_of y)), if_pos ⟨q1, Or.inr (by omega)⟩]
          unfold n4
          rw [if_neg (by omega)]
    · rw [if_neg q1, if_neg (fun z => q1 z.1)]
  · refine gX10_partFor_21 (c := c) (σ := σ) ⟨fun _ => ⟨?_, rfl⟩, fun q => absurd (nle_of (by rw [e0] at q; exact q)) (by omega)⟩
    refine congrArg (fun z => some (Value.int z)) ?_
    rw [p1, ite_c (p := nI (c 3 p) = 1) (q := c 3 p = 1) (nI_eq (b := 1) (by omega) (by decide)) _ _, ite_c (p := nI (c 3 p) = 2) (q := c 3 p = 2) (nI_eq (b := 2) (by omega) (by decide)) _ _, ite_c (p := nI (σ 8 1) < 2) (q := σ 8 1 < 2) (nI_ltI (b := 2) (by omega) (by decide)) _ _]
    unfold prt laden
    by_cases q1 : c 3 p = 1 <;> by_cases q2 : c 3 p = 2 <;> by_cases q3 : σ 8 1 < 2 <;> simp [q1, q2, q3] <;> first | rfl | omega | (rw [if_pos (by omega)]; rfl) | (rw [if_neg (by omega)])
set_option maxRecDepth 20000 in
set_option maxHeartbeats 4000000 in
theorem gX10_push_0 {G : td_G} {d : Nat} {Post : td_P} {h : td_H} (K : ((h 85 19) ≤ 0 → td_J G (d + 1) mX10_push Post 32 [(0, .ref 85), (1, .int (h 87 3)), (2, .int 0)] [] h) ∧ (¬ (h 85 19) ≤ 0 → (Post none (hu (hu h 85 18 0) 85 19 (((hu h 85 18 0) 85 19) - 1))))) : td_J G (d + 1) mX10_push Post 0 [(0, .ref 85)] [] h := by
  refine td_aload_n 0 dX10_push_0 rfl ?_
  refine gf_X10_170 rfl kp_85 dX10_push_1 ?_
  obtain ⟨Kt, Kf⟩ := K
  refine td_if_le (tgt := 23) dX10_push_4 (by decide) (fun q4 => ?_) (fun q4 => ?_)
  · have K := Kt q4
    refine td_aload_n 0 dX10_push_23 rfl ?_
    refine gf_X10_13 rfl kp_85 dX10_push_24 ?_
    refine td_iconst (v := 3) dX10_push_27 (by decide) ?_
    refine td_ialdc (j := 3) kp_87 (by decide) (by unfold vp_in; decide) (by decide) dX10_push_28 ?_
    refine td_istore_n (lv2 := [(0, .ref 85), (1, .int (h 87 3))]) dX10_push_29 (by decide) rfl ?_
    refine td_iconst (v := 0) dX10_push_30 (by decide) ?_
    refine td_istore_n (lv2 := [(0, .ref 85), (1, .int (h 87 3)), (2, .int 0)]) dX10_push_31 (by decide) rfl ?_
    exact K
  · have K := Kf q4
    refine td_aload_n 0 dX10_push_7 rfl ?_
    refine td_iconst (v := 0) dX10_push_8 (by decide) ?_
    refine pf_X10_173 rfl kp_85 dX10_push_9 ?_
    refine td_aload_n 0 dX10_push_12 rfl ?_
    refine td_dup dX10_push_13 rfl ?_
    refine gf_X10_170 rfl kp_85 dX10_push_14 ?_
    refine td_iconst (v := 1) dX10_push_17 (by decide) ?_
    refine td_isub dX10_push_18 ?_
    refine pf_X10_170 rfl kp_85 dX10_push_19 ?_
    exact td_return rfl dX10_push_22 K
set_option maxRecDepth 20000 in
set_option maxHeartbeats 4000000 in
theorem gX10_push_32 {G : td_G} {d : Nat} {Post : td_P} {x1 x2 : Int32} {h : td_H} (K : ((h 86 9) ≤ x2 → (Post none (if x1 < ((h 87 4) * ((h 85 18) + 1)) then if ((h 87 4) * (h 85 18)) ≤ x1 then h else (hu h 85 18 ((h 85 18) - 1)) else if (h 87 5) ≤ (h 85 18) then if ((h 87 4) * (h 85 18)) ≤ x1 then h else (hu h 85 18 ((h 85 18) - 1)) else (hu h 85 18 ((h 85 18) + 1)) : td_H))) ∧ (¬ (h 86 9) ≤ x2 → (vp_in x2 12 ∧ (((h 91 (ix x2)) = 2 → (vp_in ((10 + (3 * x2)) + 2) 46 ∧ True)) ∧ (td_J G (d + 1) mX10_push Post 32 [(0, .ref 85), (1, .int (x1 + (if (h 91 (ix x2)) = 2 then (puI (h 86 (ix ((10 + (3 * x2)) + 2)))) else 0 : Int32))), (2, .int (x2 + 1))] [] h))))) : td_J G (d + 1) mX10_push Post 32 [(0, .ref 85), (1, .int x1), (2, .int x2)] [] h := by
  refine td_iload_n 2 dX10_push_32 rfl ?_
  refine td_aload_n 0 dX10_push_33 rfl ?_
  refine gf_X10_7 rfl kp_85 dX10_push_34 ?_
  refine td_bipush (v := 9) dX10_push_37 (by decide) ?_
  refine td_ialdc (j := 9) kp_86 (by decide) (by unfold vp_in; decide) (by decide) dX10_push_39 ?_
  obtain ⟨Kt, Kf⟩ := K
  refine td_icmp_ge (tgt := 75) dX10_push_40 (by decide) (fun q40 => ?_) (fun q40 => ?_)
  · have K := Kt q40
    refine td_iload_n 1 dX10_push_75 rfl ?_
    refine td_aload_n 0 dX10_push_76 rfl ?_
    refine gf_X10_13 rfl kp_85 dX10_push_77 ?_
    refine td_iconst (v := 4) dX10_push_80 (by decide) ?_
    refine td_ialdc (j := 4) kp_87 (by decide) (by unfold vp_in; decide) (by decide) dX10_push_81 ?_
    refine td_aload_n 0 dX10_push_82 rfl ?_
    refine gf_X10_173 rfl kp_85 dX10_push_83 ?_
    refine td_iconst (v := 1) dX10_push_86 (by decide) ?_
    refine td_iadd dX10_push_87 ?_
    refine td_imul dX10_push_88 ?_
    have KJ143 : td_J G (d + 1) mX10_push Post 143 [(0, .ref 85), (1, .int x1), (2, .int x2)] [] (if x1 < ((h 87 4) * ((h 85 18) + 1)) then if ((h 87 4) * (h 85 18)) ≤ x1 then h else (hu h 85 18 ((h 85 18) - 1)) else if (h 87 5) ≤ (h 85 18) then if ((h 87 4) * (h 85 18)) ≤ x1 then h else (hu h 85 18 ((h 85 18) - 1)) else (hu h 85 18 ((h 85 18) + 1)) : td_H) := by
      exact td_return rfl dX10_push_143 K
    refine td_icmp_lt (tgt := 118) dX10_push_89 (by decide) (fun q89 => ?_) (fun q89 => ?_)
    · skip
      refine td_iload_n 1 dX10_push_118 rfl ?_
      refine td_aload_n 0 dX10_push_119 rfl ?_
      refine gf_X10_13 rfl kp_85 dX10_push_120 ?_
      refine td_iconst (v := 4) dX10_push_123 (by decide) ?_
      refine td_ialdc (j := 4) kp_87 (by decide) (by unfold vp_in; decide) (by decide) dX10_push_124 ?_
      refine td_aload_n 0 dX10_push_125 rfl ?_
      refine gf_X10_173 rfl kp_85 dX10_push_126 ?_
      refine td_imul dX10_push_129 ?_
      refine td_icmp_ge (tgt := 143) dX10_push_130 (by decide) (fun q130 => ?_) (fun q130 => ?_)
      · skip
        exact td_to KJ143 rfl rfl (by rw [show (if x1 < ((h 87 4) * ((h 85 18) + 1)) then if ((h 87 4) * (h 85 18)) ≤ x1 then h else (hu h 85 18 ((h 85 18) - 1)) else if (h 87 5) ≤ (h 85 18) then if ((h 87 4) * (h 85 18)) ≤ x1 then h else (hu h 85 18 ((h 85 18) - 1)) else (hu h 85 18 ((h 85 18) + 1)) : td_H) = _ from (if_pos q89).trans (if_pos q130)])
      · skip
        refine td_aload_n 0 dX10_push_133 rfl ?_
        refine td_dup dX10_push_134 rfl ?_
        refine gf_X10_173 rfl kp_85 dX10_push_135 ?_
        refine td_iconst (v := 1) dX10_push_138 (by decide) ?_
        refine td_isub dX10_push_139 ?_
        refine pf_X10_173 rfl kp_85 dX10_push_140 ?_
        exact td_to KJ143 rfl rfl (by rw [show (if x1 < ((h 87 4) * ((h 85 18) + 1)) then if ((h 87 4) * (h 85 18)) ≤ x1 then h else (hu h 85 18 ((h 85 18) - 1)) else if (h 87 5) ≤ (h 85 18) then if ((h 87 4) * (h 85 18)) ≤ x1 then h else (hu h 85 18 ((h 85 18) - 1)) else (hu h 85 18 ((h 85 18) + 1)) : td_H) = _ from (if_pos q89).trans (if_neg q130)])
    · skip
      refine td_aload_n 0 dX10_push_92 rfl ?_
      refine gf_X10_173 rfl kp_85 dX10_push_93 ?_
      refine td_aload_n 0 dX10_push_96 rfl ?_
      refine gf_X10_13 rfl kp_85 dX10_push_97 ?_
      refine td_iconst (v := 5) dX10_push_100 (by decide) ?_
      refine td_ialdc (j := 5) kp_87 (by decide) (by unfold vp_in; decide) (by decide) dX10_push_101 ?_
      refine td_icmp_ge (tgt := 118) dX10_push_102 (by decide) (fun q102 => ?_) (fun q102 => ?_)
      · skip
        refine td_iload_n 1 dX10_push_118 rfl ?_
        refine td_aload_n 0 dX10_push_119 rfl ?_
        refine gf_X10_13 rfl kp_85 dX10_push_120 ?_
        refine td_iconst (v := 4) dX10_push_123 (by decide) ?_
        refine td_ialdc (j := 4) kp_87 (by decide) (by unfold vp_in; decide) (by decide) dX10_push_124 ?_
        refine td_aload_n 0 dX10_push_125 rfl ?_
        refine gf_X10_173 rfl kp_85 dX10_push_126 ?_
        refine td_imul dX10_push_129 ?_
        refine td_icmp_ge (tgt := 143) dX10_push_130 (by decide) (fun q130 => ?_) (fun q130 => ?_)
        · skip
          exact td_to KJ143 rfl rfl (by rw [show (if x1 < ((h 87 4) * ((h 85 18) + 1)) then if ((h 87 4) * (h 85 18)) ≤ x1 then h else (hu h 85 18 ((h 85 18) - 1)) else if (h 87 5) ≤ (h 85 18) then if ((h 87 4) * (h 85 18)) ≤ x1 then h else (hu h 85 18 ((h 85 18) - 1)) else (hu h 85 18 ((h 85 18) + 1)) : td_H) = _ from (if_neg q89).trans ((if_pos q102).trans (if_pos q130))])
        · skip
          refine td_aload_n 0 dX10_push_133 rfl ?_
          refine td_dup dX10_push_134 rfl ?_
          refine gf_X10_173 rfl kp_85 dX10_push_135 ?_
          refine td_iconst (v := 1) dX10_push_138 (by decide) ?_
          refine td_isub dX10_push_139 ?_
          refine pf_X10_173 rfl kp_85 dX10_push_140 ?_
          exact td_to KJ143 rfl rfl (by rw [show (if x1 < ((h 87 4) * ((h 85 18) + 1)) then if ((h 87 4) * (h 85 18)) ≤ x1 then h else (hu h 85 18 ((h 85 18) - 1)) else if (h 87 5) ≤ (h 85 18) then if ((h 87 4) * (h 85 18)) ≤ x1 then h else (hu h 85 18 ((h 85 18) - 1)) else (hu h 85 18 ((h 85 18) + 1)) : td_H) = _ from (if_neg q89).trans ((if_pos q102).trans (if_neg q130))])
      · skip
        refine td_aload_n 0 dX10_push_105 rfl ?_
        refine td_dup dX10_push_106 rfl ?_
        refine gf_X10_173 rfl kp_85 dX10_push_107 ?_
        refine td_iconst (v := 1) dX10_push_110 (by decide) ?_
        refine td_iadd dX10_push_111 ?_
        refine pf_X10_173 rfl kp_85 dX10_push_112 ?_
        refine td_goto (tgt := 143) dX10_push_115 (by decide) ?_
        exact td_to KJ143 rfl rfl (by rw [show (if x1 < ((h 87 4) * ((h 85 18) + 1)) then if ((h 87 4) * (h 85 18)) ≤ x1 then h else (hu h 85 18 ((h 85 18) - 1)) else if (h 87 5) ≤ (h 85 18) then if ((h 87 4) * (h 85 18)) ≤ x1 then h else (hu h 85 18 ((h 85 18) - 1)) else (hu h 85 18 ((h 85 18) + 1)) : td_H) = _ from (if_neg q89).trans (if_neg q102)])
  · have K := Kf q40
    refine td_iload_n 1 dX10_push_43 rfl ?_
    refine td_aload_n 0 dX10_push_44 rfl ?_
    refine gf_X10_25 rfl kp_85 dX10_push_45 ?_
    refine td_iload_n 2 dX10_push_48 rfl ?_
    obtain ⟨e49, K⟩ := K
    refine td_ialdc (j := (ix x2)) kp_91 (by decide) e49 rfl dX10_push_49 ?_
    refine td_iconst (v := 2) dX10_push_50 (by decide) ?_
    obtain ⟨Ks51, K⟩ := K
    have KJ67 : td_J G (d + 1) mX10_push Post 67 [(0, .ref 85), (1, .int x1), (2, .int x2)] [.int (if (h 91 (ix x2)) = 2 then (puI (h 86 (ix ((10 + (3 * x2)) + 2)))) else 0 : Int32), .int x1] h := by
      refine td_iadd dX10_push_67 ?_
      refine td_istore_n (lv2 := [(0, .ref 85), (1, .int (x1 + (if (h 91 (ix x2)) = 2 then (puI (h 86 (ix ((10 + (3 * x2)) + 2)))) else 0 : Int32))), (2, .int x2)]) dX10_push_68 (by decide) rfl ?_
      refine td_iinc 2 (v := x2 + 1) (lv2 := [(0, .ref 85), (1, .int (x1 + (if (h 91 (ix x2)) = 2 then (puI (h 86 (ix ((10 + (3 * x2)) + 2)))) else 0 : Int32))), (2, .int (x2 + 1))]) dX10_push_69 rfl (congrArg (x2 + ·) (by decide)) (by decide) rfl ?_
      refine td_goto (tgt := 32) dX10_push_72 (by decide) ?_
      exact K
    refine td_icmp_ne (tgt := 66) dX10_push_51 (by decide) (fun q51 => ?_) (fun q51 => ?_)
    · skip
      refine td_iconst (v := 0) dX10_push_66 (by decide) ?_
      exact td_to KJ67 rfl (by rw [show (if (h 91 (ix x2)) = 2 then (puI (h 86 (ix ((10 + (3 * x2)) + 2)))) else 0 : Int32) = _ from if_neg q51]) rfl
    · have K := Ks51 q51
      refine td_aload_n 0 dX10_push_54 rfl ?_
      refine td_iload_n 2 dX10_push_55 rfl ?_
      refine td_iconst (v := 2) dX10_push_56 (by decide) ?_
      obtain ⟨e57_0, K⟩ := K
      refine cl_X10_94 rfl kp_85 dX10_push_57 (Nat.le_of_ble_eq_true rfl) (c_of x2 2 e57_0) (eR_k ?_)
      refine td_eqs (st2 := [.int (h 86 (ix ((10 + (3 * x2)) + 2))), .int x1]) rfl ?_
      refine cl_X10_127 rfl dX10_push_60 (Nat.le_of_ble_eq_true rfl) (c_pushOf (h 86 (ix ((10 + (3 * x2)) + 2)))) (eR_k ?_)
      refine td_eqs (st2 := [.int (puI (h 86 (ix ((10 + (3 * x2)) + 2)))), .int x1]) rfl ?_
      refine td_goto (tgt := 67) dX10_push_63 (by decide) ?_
      exact td_to KJ67 rfl (by rw [show (if (h 91 (ix x2)) = 2 then (puI (h 86 (ix ((10 + (3 * x2)) + 2)))) else 0 : Int32) = _ from if_pos q51]) rfl
theorem c_push {G : td_G} {d : Nat} {h : td_H} (c σ : nH) (hc : rmC c h) (hs : rmS σ h) : td_C G (d + 1) mX10_push [.ref 85] h (fun r h1 => r = none ∧ Fr h h1 ∧ rmS (sSpeed c σ) h1) := by
  have hn := hc.1.n
  have e9 := hc.2.2.1
  obtain ⟨⟨t1, t2⟩, ⟨p1, p2⟩, ⟨s1, s2⟩, -⟩ := hs.2
  refine td_entry rfl (Nat.le_of_ble_eq_true rfl) rfl (gX10_push_0 ⟨fun q => ?_, fun q => ⟨rfl, ?_, ?_⟩⟩)
  · have q0 : σ 8 2 = 0 := by
      have := le_of (b := 0) (by rw [s1] at q; exact q)
      omega
    have e3 : h 87 3 = nI (c 0 3) := hc.2.1 3 (by decide)
    rw [e3]
    refine td_for (c 1 0) (fun k => [(0, .ref 85), (1, .int (nI (c 0 3 + fb_sm (fun p => if σ 0 p = 2 then puk (c 3 p) else 0) k))), (2, .int (nI k))]) (fun _ => h) rfl rfl (fun k hk ih => ?_) ?_
    · have hk12 : k < 12 := by omega
      have v2 : vp_in (10 + 3 * nI k + 2) 46 := of_in hk12 (w := 2) (by decide)
      refine gX10_push_32 ⟨fun q => absurd (le_of (by rw [e9] at q; exact q)) (by omega), fun _ => ⟨vp_in_nI (by omega) (by decide), fun _ => ⟨v2, trivial⟩, ?_⟩⟩
      refine td_to ih ?_ rfl rfl
      obtain ⟨⟨g1, g2⟩, -⟩ := hs.1 k (by omega)
      rw [ixn (by omega), g1, of_2 hc hk, pu_n (hc.1.p hk).2.1, nI_1, ite_c (p := nI (σ 0 k) = 2) (q := σ 0 k = 2) (nI_eq (b := 2) (by omega) (by decide)) _ _, show (0 : Int32) = nI 0 from rfl, nI_ite, nI_add, fb_sm_succ, Nat.add_assoc]
    · refine gX10_push_32 ⟨fun _ => ⟨rfl, ?_⟩, fun q => absurd (nle_of (by rw [e9] at q; exact q)) (by omega)⟩
      have e4 : h 87 4 = nI (c 0 4) := hc.2.1 4 (by decide)
      have e5 : h 87 5 = nI (c 0 5) := hc.2.1 5 (by decide)
      have hd := hc.1.2.2.2.2.1
      have hgv := hc.1.2.2.2.2.2.1
      have hm := hc.1.2.2.2.1
      have hps := push_le c σ hn
      have hq1 : c 0 4 * (σ 8 1 + 1) ≤ 36 := Nat.le_trans (Nat.mul_le_mul hd.2 (by omega : σ 8 1 + 1 ≤ 4)) (by decide)
      have hq2 : c 0 4 * σ 8 1 ≤ 36 := Nat.le_trans (Nat.mul_le_mul hd.2 (by omega : σ 8 1 ≤ 4)) (by decide)
      refine byX (fun X => Fr h X ∧ rmS (sSpeed c σ) X) (if c 0 3 + pushS c σ < c 0 4 * (σ 8 1 + 1) then (if c 0 4 * σ 8 1 ≤ c 0 3 + pushS c σ then h else hu h 85 18 (nI (σ 8 1) - 1)) else if c 0 5 ≤ σ 8 1 then (if c 0 4 * σ 8 1 ≤ c 0 3 + pushS c σ then h else hu h 85 18 (nI (σ 8 1) - 1)) else hu h 85 18 (nI (σ 8 1 + 1))) ?_ ?_
      · rw [e4, e5, p1, nI_1, pk_mul, pk_mul, ite_c (nI_ltI (b := c 0 4 * (σ 8 1 + 1)) (by show c 0 3 + pushS c σ < _; omega) (by omega)) _ _, ite_c (nI_leI (a := c 0 4 * σ 8 1) (by omega) (by show c 0 3 + pushS c σ < _; omega)) _ _, ite_c (nI_leI (a := c 0 5) (b := σ 8 1) (by omega) (by omega)) _ _]
        rfl
      unfold sSpeed
      rw [if_neg (by omega : ¬ 0 < σ 8 2)]
      have frs : ∀ v, Fr h (hu h 85 18 v) := fun v => (Fr.rf h).put (by unfold simP; omega) v
      by_cases y1 : c 0 3 + pushS c σ < c 0 4 * (σ 8 1 + 1)
      · rw [if_pos y1, if_neg (fun z : c 0 4 * (σ 8 1 + 1) ≤ c 0 3 + pushS c σ ∧ σ 8 1 < c 0 5 => by omega)]
        by_cases y2 : c 0 4 * σ 8 1 ≤ c 0 3 + pushS c σ
        · rw [if_pos y2, if_neg (fun z : c 0 3 + pushS c σ < c 0 4 * σ 8 1 => by omega)]
          exact ⟨Fr.rf h, hs⟩
        · rw [if_neg y2, if_pos (show c 0 3 + pushS c σ < c 0 4 * σ 8 1 by omega)]
          have y3 : 1 ≤ σ 8 1 := by
            rcases Nat.eq_zero_or_pos (σ 8 1) with z | z
            · rw [z, Nat.mul_zero] at y2; omega
            · exact z
          rw [show (1 : Int32) = nI 1 from rfl, pk_sub y3]
          exact ⟨frs _, hs.speed (by omega)⟩
      · rw [if_neg y1]
        by_cases y2 : c 0 5 ≤ σ 8 1
        · have y4 : c 0 4 * σ 8 1 ≤ c 0 3 + pushS c σ := by
            have := Nat.mul_le_mul_left (c 0 4) (by omega : σ 8 1 ≤ σ 8 1 + 1)
            omega
          rw [if_pos y2, if_neg (fun z : c 0 4 * (σ 8 1 + 1) ≤ c 0 3 + pushS c σ ∧ σ 8 1 < c 0 5 => by omega), if_pos y4, if_neg (fun z : c 0 3 + pushS c σ < c 0 4 * σ 8 1 => by omega)]
          exact ⟨Fr.rf h, hs⟩
        · rw [if_neg y2, if_pos (show c 0 4 * (σ 8 1 + 1) ≤ c 0 3 + pushS c σ ∧ σ 8 1 < c 0 5 from ⟨by omega, by omega⟩)]
          exact ⟨frs _, hs.speed (by omega)⟩
  · exact ((Fr.rf h).put (by unfold simP; omega) _).put (by unfold simP; omega) _
  · have q0 : 0 < σ 8 2 := nle_of (b := 0) (by rw [s1] at q; exact q)
    unfold sSpeed
    rw [if_pos q0]
    have e : hu h 85 18 0 85 19 = nI (σ 8 2) := by rw [hu_app, if_neg (by omega)]; exact s1
    rw [e, show (1 : Int32) = nI 1 from rfl, pk_sub q0]
    exact (hs.speed (v := 0) (by omega)).stuck (by omega)
