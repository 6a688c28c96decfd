/-! Door: a course begins -/
set_option maxRecDepth 20000 in
set_option maxHeartbeats 4000000 in
theorem gX0_begin_0 {G : td_G} {d : Nat} {Post : td_P} {q : Nat} {c : nH} {k0 k1 : Nat} {x2 : Int32} {h : td_H} (hk0 : td_kd k0 = 0) (hk1 : td_kd k1 = 5) (K : k1 + 4 < (k0 + 1) ∧ dP c (k1) (hu (hu h k0 5 (nI k1)) k0 6 x2) ∧ dKn ((k0 + 1)) (hu (hu h k0 5 (nI k1)) k0 6 x2) ∧ (∀ h15 : td_H, (dBeg c ((k0 + 1)) (hu (hu h k0 5 (nI k1)) k0 6 x2) h15) → (∀ H22 : td_H, H22 = hu (hu (fbH h15 ((k0 + 7)) 12) ((k0 + 7)) 4 0) ((k0 + 7)) 5 0 → (∀ H37 : td_H, H37 = hu (hu (hu H22 k0 9 0) k0 10 0) k0 11 0 → (∀ H52 : td_H, H52 = hu (hu (hu H37 k0 12 0) k0 13 0) k0 14 0 → (td_kd q = 5 ∧ q + 4 < k0 ∧ H52 (k0) 5 = nI q ∧ dP c q H52 ∧ H52 (k0) 6 = ms (comM c) ∧ (∀ h56 : td_H, (gaI c (k0) (c 1 0) H52 h56) → (h56 (k0) 5 = nI q ∧ dP c q h56 ∧ (∀ h60 : td_H, ((∀ a b, a ≠ k0 + 12 → h60 a b = h56 a b) ∧ ∃ Q, qOrd c Q ∧ ∀ i, i < c 1 0 → h60 (k0 + 12) i = nI (Q i)) → (Post none h60)))))))))) : td_J G (d + 4) mX0_begin Post 0 [(0, .ref k0), (1, .ref k1), (2, .int x2)] [] h := by
  refine td_aload_n 0 dX0_begin_0 rfl ?_
  refine td_aload_n 1 dX0_begin_1 rfl ?_
  refine pf_X0_38 rfl hk0 (td_kd_lt hk1 (by decide)) dX0_begin_2 ?_
  refine td_aload_n 0 dX0_begin_5 rfl ?_
  refine td_iload_n 2 dX0_begin_6 rfl ?_
  refine pf_X0_42 rfl hk0 dX0_begin_7 ?_
  refine td_aload_n 0 dX0_begin_10 rfl ?_
  refine gf_X0_12 rfl hk0 dX0_begin_11 ?_
  refine td_aload_n 1 dX0_begin_14 rfl ?_
  obtain ⟨e15_0, K⟩ := K
  obtain ⟨e15_1, K⟩ := K
  obtain ⟨e15_2, K⟩ := K
  refine cl_X0_46 rfl (kd_0_0 hk0) dX0_begin_15 (Nat.le_of_ble_eq_true rfl) (c_D_begin (kd_0_0 hk0) hk1 e15_0 e15_1 e15_2) ?_
  rintro _ h15 ⟨rfl, f15⟩
  have K := K h15 f15
  refine td_eqs (st2 := []) rfl ?_
  refine td_aload_n 0 dX0_begin_18 rfl ?_
  refine gf_X0_21 rfl hk0 dX0_begin_19 ?_
  refine cl_X0_50 rfl (kd_0_1 hk0) dX0_begin_22 (Nat.le_of_ble_eq_true rfl) (c_F_begin (kd_0_1 hk0)) (eV_k ?_)
  refine td_eqs (st2 := []) rfl ?_
  obtain ⟨H22, E22⟩ : ∃ z : td_H, z = hu (hu (fbH h15 ((k0 + 7)) 12) ((k0 + 7)) 4 0) ((k0 + 7)) 5 0 := ⟨_, rfl⟩
  have K := K H22 E22
  refine td_eqh E22 ?_
  refine td_aload_n 0 dX0_begin_25 rfl ?_
  refine td_iconst (v := 0) dX0_begin_26 (by decide) ?_
  refine pf_X0_52 rfl hk0 dX0_begin_27 ?_
  refine td_aload_n 0 dX0_begin_30 rfl ?_
  refine td_iconst (v := 0) dX0_begin_31 (by decide) ?_
  refine pf_X0_55 rfl hk0 dX0_begin_32 ?_
  refine td_aload_n 0 dX0_begin_35 rfl ?_
  refine td_iconst (v := 0) dX0_begin_36 (by decide) ?_
  refine pf_X0_58 rfl hk0 dX0_begin_37 ?_
  obtain ⟨H37, E37⟩ : ∃ z : td_H, z = hu (hu (hu H22 k0 9 0) k0 10 0) k0 11 0 := ⟨_, rfl⟩
  have K := K H37 E37
  refine td_eqh E37 ?_
  refine td_aload_n 0 dX0_begin_40 rfl ?_
  refine td_iconst (v := 0) dX0_begin_41 (by decide) ?_
  refine pf_X0_61 rfl hk0 dX0_begin_42 ?_
  refine td_aload_n 0 dX0_begin_45 rfl ?_
  refine td_iconst (v := 0) dX0_begin_46 (by decide) ?_
  refine pf_X0_64 rfl hk0 dX0_begin_47 ?_
  refine td_aload_n 0 dX0_begin_50 rfl ?_
  refine td_iconst (v := 0) dX0_begin_51 (by decide) ?_
  refine pf_X0_67 rfl hk0 dX0_begin_52 ?_
  obtain ⟨H52, E52⟩ : ∃ z : td_H, z = hu (hu (hu H37 k0 12 0) k0 13 0) k0 14 0 := ⟨_, rfl⟩
  have K := K H52 E52
  refine td_eqh E52 ?_
  refine td_aload_n 0 dX0_begin_55 rfl ?_
  obtain ⟨e56_0, K⟩ := K
  obtain ⟨e56_1, K⟩ := K
  obtain ⟨e56_2, K⟩ := K
  obtain ⟨e56_3, K⟩ := K
  obtain ⟨e56_4, K⟩ := K
  refine cl_X0_70 rfl hk0 dX0_begin_56 (Nat.le_of_ble_eq_true rfl) (c_gather hk0 e56_0 e56_1 e56_2 e56_3 e56_4) ?_
  rintro _ h56 ⟨rfl, f56⟩
  have K := K h56 f56
  refine td_eqs (st2 := []) rfl ?_
  refine td_aload_n 0 dX0_begin_59 rfl ?_
  obtain ⟨e60_2, K⟩ := K
  obtain ⟨e60_3, K⟩ := K
  refine cl_X0_73 rfl hk0 dX0_begin_60 (Nat.le_of_ble_eq_true rfl) (c_lineUp hk0 e56_0 e56_1 e60_2 e60_3) ?_
  rintro _ h60 ⟨rfl, f60⟩
  have K := K h60 f60
  refine td_eqs (st2 := []) rfl ?_
  exact td_return rfl dX0_begin_63 K
def FrC (k : Nat) (h h' : td_H) : Prop := ∀ a b, ¬ (k ≤ a ∧ a ≤ k + 14) → h' a b = h a b
theorem FrC.tr {k : Nat} {h h1 h2 : td_H} (x : FrC k h h1) (y : FrC k h1 h2) : FrC k h h2 := fun a b n => (y a b n).trans (x a b n)
theorem FrD.C {k : Nat} {h h1 : td_H} (x : FrD k h h1) : FrC k h h1 := fun a b n => x a b (by unfold dynP; omega)
theorem FrC.P {c : nH} {k q : Nat} {h h1 : td_H} (x : FrC k h h1) (hq : q + 4 < k ∨ k + 14 < q) (hc : dP c q h) : dP c q h1 := by
  obtain ⟨w, a1, a2, a3⟩ := hc
  refine ⟨w, fun i hi => ?_, ?_, fun p hp => ?_⟩
  · rw [x (q + 1) i (by omega)]; exact a1 i hi
  · rw [x q 4 (by omega)]; exact a2
  · rw [x (q + 2) p (by omega), x (q + 3) p (by omega), x (q + 4) p (by omega)]
    exact a3 p hp
theorem push_0 (c : nH) : pushS c s0 = 0 := by
  unfold pushS
  have : fb_sm (fun p => if s0 0 p = 2 then puk (c 3 p) else 0) (c 1 0) = fb_sm (fun _ => 0) (c 1 0) := fb_sm_cong (fun p _ => by
    rw [if_neg (by show ¬ 0 = 2; decide)])
  rw [this, fb_sm_const, Nat.mul_zero]
theorem dQ.kn {c : nH} {Q : Nat → Nat} {k q : Nat} {h : td_H} (x : dQ c Q k q h) : dKn (k + 1) h := Or.inr ⟨_, _, x.2.2.2.2.2.1⟩
theorem c_C_begin {G : td_G} {d : Nat} {h : td_H} {k q : Nat} {c : nH} (hk : td_kd k = 0) (hq : td_kd q = 5) (x : Int32) (hsep : q + 4 < k) (hP : dP c q h) (hK : dKn (k + 1) h) (hx : x = ms (comM c)) : td_C G (d + 4) mX0_begin [.ref k, .ref q, .int x] h (fun r h' => r = none ∧ FrC k h h' ∧ ∃ Q, dQ c Q k q h' ∧ dV c s0 k h') := by
  have hk107 := td_kd_lt hk (by decide)
  have hq107 := td_kd_lt hq (by decide)
  have rP : ∀ H : td_H, (∀ a b, ¬ (k ≤ a ∧ a ≤ k + 14) → H a b = h a b) → dP c q H := fun H hH => FrC.P (k := k) hH (Or.inl hsep) hP
  refine td_entry rfl (Nat.le_of_ble_eq_true rfl) rfl (gX0_begin_0 (c := c) (q := q) hk hq ⟨by omega, rP _ (fun a b n => ?_), ?_, fun h15 B H22 E22 H37 E37 H52 E52 => ?_⟩)
  · rw [hu_app, if_neg (by omega), hu_app, if_neg (by omega)]
  · have r : ∀ a b, a ≠ k → (hu (hu h k 5 (nI q)) k 6 x) a b = h a b := fun a b n => by rw [hu_app, if_neg (by omega), hu_app, if_neg (by omega)]
    rcases hK with z | ⟨L, O, z⟩
    · left; rw [r _ _ (by omega)]; exact z
    · right; exact ⟨L, O, z.fr (r _ _ (by omega)) (r _ _ (by omega)) (fun a b ha => r _ _ (by omega))⟩
  · obtain ⟨B0, B1, B7, B8, B9, B10, B11, B3⟩ := B
    -- from 52 down to 15
    have r52 : ∀ a b, ¬ (a = k ∧ 9 ≤ b) → ¬ (a = k + 7 ∧ 4 ≤ b) → ¬ (k + 8 ≤ a ∧ a ≤ k + 11) → H52 a b = h15 a b := fun a b n1 n2 n3 => by
      rw [E52, hu_app, if_neg (by omega), hu_app, if_neg (by omega), hu_app, if_neg (by omega), E37, hu_app, if_neg (by omega), hu_app, if_neg (by omega), hu_app, if_neg (by omega), E22, hu_app, if_neg (by omega), hu_app, if_neg (by omega)]
      unfold fbH
      rw [if_neg (by omega), if_neg (by omega)]
    have f52 : ∀ a b, a ≠ k → H52 a b = H22 a b := fun a b n => by
      rw [E52, hu_app, if_neg (by omega), hu_app, if_neg (by omega), hu_app, if_neg (by omega), E37, hu_app, if_neg (by omega), hu_app, if_neg (by omega), hu_app, if_neg (by omega)]
    have o52 : ∀ a b, ¬ (k ≤ a ∧ a ≤ k + 14) → H52 a b = h a b := fun a b n => by
      rw [r52 _ _ (by omega) (by omega) (by omega), B0 _ _ (by omega), hu_app, if_neg (by omega), hu_app, if_neg (by omega)]
    have e5 : H52 k 5 = nI q := by
      rw [r52 _ _ (by omega) (by omega) (by omega), B0 _ _ (by omega), hu_app, if_neg (by omega), hu_app, if_pos ⟨rfl, rfl⟩]
    have e6 : H52 k 6 = ms (comM c) := by
      rw [r52 _ _ (by omega) (by omega) (by omega), B0 _ _ (by omega), hu_app, if_pos ⟨rfl, rfl⟩, hx]
    refine ⟨hq, hsep, e5, rP _ o52, e6, fun h56 hg => ?_⟩
    obtain ⟨g0, g7, g8, g14, g13⟩ := hg
    have o56 : ∀ a b, ¬ (k ≤ a ∧ a ≤ k + 14) → h56 a b = h a b := fun a b n => by rw [g0 _ _ (by omega)]; exact o52 a b n
    refine ⟨by rw [g0 _ _ (by omega)]; exact e5, rP _ o56, fun h60 hl => ?_⟩
    obtain ⟨l0, Q, lq, l12⟩ := hl
    have o60 : FrC k h h60 := fun a b n => by rw [l0 _ _ (by omega)]; exact o56 a b n
    have s60 : ∀ a b, a ≠ k + 12 → ¬ ((a = k ∧ (b = 7 ∨ b = 8)) ∨ a = k + 13 ∨ a = k + 14) → h60 a b = H52 a b := fun a b n1 n2 => by rw [l0 _ _ n1, g0 _ _ n2]
    have t60 : ∀ a b, (k + 1 ≤ a ∧ a ≤ k + 5) → h60 a b = h15 a b := fun a b n => by rw [s60 _ _ (by omega) (by omega), r52 _ _ (by omega) (by omega) (by omega)]
    have full : ∀ P : Nat → Bool, (∀ j, P j = true → j < c 1 0) → ms (fun j => decide (j < c 1 0) && P j) = ms P := fun P hP2 => ms_ext (fun j _ => by
      by_cases y : P j = true
      · simp [y, hP2 j y]
      · simp [y])
    have hz : ∀ P : Nat → Bool, (∀ j, P j = false) → (0 : Int32) = ms P := fun P hP2 => (ms_0.mpr (fun i _ => hP2 i)).symm
    have f0 : ∀ p, s0 0 p = 0 := fun _ => rfl
    refine ⟨rfl, o60, Q, ⟨hk, hq, hsep, ?_, rP _ o60, ?_, ?_, ?_, ?_, ?_, fun s hs => ?_, fun t ht => ?_, lq, l12⟩, ⟨?_, ?_, ?_, ?_, ?_⟩, ⟨fun _ => false, ?_, fun p _ => ⟨fun y => (by cases y), fun y => absurd y (by rw [f0]; decide)⟩⟩, ⟨?_, ?_, ?_, ?_⟩, fun i hi => ⟨?_, ?_⟩, fun p _ y => absurd y (by rw [f0]; decide), ?_, ?_, fun p hp => ⟨?_, ?_, ?_, ?_⟩⟩
    · rw [s60 _ _ (by omega) (by omega)]; exact e5
    · exact B1.fr (t60 _ _ (by omega)) (t60 _ _ (by omega)) (fun a b ha => t60 _ _ (by omega))
    · rw [t60 _ _ (by omega)]; exact B10
    · rw [s60 _ _ (by omega) (by omega)]; exact e6
    · rw [l0 _ _ (by omega), g7]; exact full _ (fun j y => by unfold kdM at y; simp at y; exact y.1)
    · rw [l0 _ _ (by omega), g8]; exact full _ (fun j y => by unfold kdM at y; simp at y; exact y.1)
    · rw [l0 _ _ (by omega), g14 s hs]; exact full _ (fun j y => by unfold sdM at y; simp at y; exact y.1)
    · rw [l0 _ _ (by omega), g13 t ht]; exact full _ (fun j y => by unfold cmM at y; simp at y; exact y.1)
    · rw [s60 _ _ (by omega) (by omega), E52, hu_app, if_neg (by omega), hu_app, if_neg (by omega), hu_app, if_neg (by omega), E37, hu_app, if_neg (by omega), hu_app, if_pos ⟨rfl, rfl⟩]
      exact hz _ (fun j => by unfold inSt; rw [f0]; simp)
    · rw [s60 _ _ (by omega) (by omega), E52, hu_app, if_neg (by omega), hu_app, if_neg (by omega), hu_app, if_neg (by omega), E37, hu_app, if_pos ⟨rfl, rfl⟩, push_0]
      rfl
    · rw [s60 _ _ (by omega) (by omega), E52, hu_app, if_neg (by omega), hu_app, if_neg (by omega), hu_app, if_pos ⟨rfl, rfl⟩]; rfl
    · rw [s60 _ _ (by omega) (by omega), E52, hu_app, if_neg (by omega), hu_app, if_pos ⟨rfl, rfl⟩]; rfl
    · rw [s60 _ _ (by omega) (by omega), E52, hu_app, if_pos ⟨rfl, rfl⟩]; rfl
    · rw [s60 _ _ (by omega) (by omega), E52, hu_app, if_neg (by omega), hu_app, if_neg (by omega), hu_app, if_neg (by omega), E37, hu_app, if_neg (by omega), hu_app, if_neg (by omega), hu_app, if_pos ⟨rfl, rfl⟩]
      exact hz _ (fun _ => rfl)
    · rw [t60 _ _ (by omega)]; exact B7
    · rw [t60 _ _ (by omega), B8]; exact hz _ (fun j => by unfold inSt; rw [f0]; simp)
    · rw [t60 _ _ (by omega)]; exact B9
    · rw [t60 _ _ (by omega)]; exact B11
    · rw [t60 _ _ (by omega)]; exact (B3 i hi).1.trans (hz _ (fun j => by unfold inP; rw [f0]; simp))
    · rw [t60 _ _ (by omega), used_0]; exact (B3 i hi).2
    · rw [s60 _ _ (by omega) (by omega), f52 _ _ (by omega), E22, hu_app, if_neg (by omega), hu_app, if_pos ⟨rfl, rfl⟩]; exact hz _ (fun j => by unfold inSt; rw [f0]; simp)
    · rw [s60 _ _ (by omega) (by omega), f52 _ _ (by omega), E22, hu_app, if_pos ⟨rfl, rfl⟩]; exact hz _ (fun j => by rw [show s0 5 j = 0 from rfl]; simp)
    · rw [s60 _ _ (by omega) (by omega), f52 _ _ (by omega), E22, hu_app, if_neg (by omega), hu_app, if_neg (by omega)]
      unfold fbH
      rw [if_pos ⟨Or.inl rfl, hp⟩]; rfl
    · rw [s60 _ _ (by omega) (by omega), f52 _ _ (by omega), E22, hu_app, if_neg (by omega), hu_app, if_neg (by omega)]
      unfold fbH
      rw [if_pos ⟨Or.inr (Or.inl rfl), hp⟩]; rfl
    · rw [s60 _ _ (by omega) (by omega), f52 _ _ (by omega), E22, hu_app, if_neg (by omega), hu_app, if_neg (by omega)]
      unfold fbH
      rw [if_pos ⟨Or.inr (Or.inr rfl), hp⟩]; rfl
    · rw [s60 _ _ (by omega) (by omega), f52 _ _ (by omega), E22, hu_app, if_neg (by omega), hu_app, if_neg (by omega)]
      unfold fbH
      rw [if_neg (by omega), if_pos ⟨rfl, hp⟩]
      exact hz _ (fun j => by have : ¬ (20 + p = 2 ∨ 20 + p = 3) := by omega
                              simp [s0, this])
