/-! Door: Order's methods -/
set_option maxRecDepth 20000 in
set_option maxHeartbeats 4000000 in
theorem gX4_insertTick_0 {G : td_G} {d : Nat} {Post : td_P} {x1 x2 : Int32} {h : td_H} (K : td_J G d mX4_insertTick Post 2 [(0, .ref 69), (1, .int x1), (2, .int x2), (3, .int x2)] [] h) : td_J G d mX4_insertTick Post 0 [(0, .ref 69), (1, .int x1), (2, .int x2)] [] h := by
  refine td_iload_n 2 dX4_insertTick_0 rfl ?_
  refine td_istore_n (lv2 := [(0, .ref 69), (1, .int x1), (2, .int x2), (3, .int x2)]) dX4_insertTick_1 (by decide) rfl ?_
  exact K
set_option maxRecDepth 20000 in
set_option maxHeartbeats 4000000 in
theorem gX4_insertTick_2 {G : td_G} {d : Nat} {Post : td_P} {x1 x2 x3 : Int32} {h : td_H} (K : (x3 ≤ 0 → (vp_in x3 6 ∧ (Post none (hu h 72 (ix x3) x1)))) ∧ (¬ x3 ≤ 0 → (vp_in (x3 - 1) 6 ∧ (((h 72 (ix (x3 - 1))) ≤ x1 → (vp_in x3 6 ∧ (Post none (hu h 72 (ix x3) x1)))) ∧ (¬ (h 72 (ix (x3 - 1))) ≤ x1 → (vp_in x3 6 ∧ (∀ H31 : td_H, H31 = hu h 72 (ix x3) (h 72 (ix (x3 - 1))) → (td_J G d mX4_insertTick Post 2 [(0, .ref 69), (1, .int x1), (2, .int x2), (3, .int (x3 + (-1)))] [] H31)))))))) : td_J G d mX4_insertTick Post 2 [(0, .ref 69), (1, .int x1), (2, .int x2), (3, .int x3)] [] h := by
  refine td_iload_n 3 dX4_insertTick_2 rfl ?_
  obtain ⟨Kt, Kf⟩ := K
  refine td_if_le (tgt := 38) dX4_insertTick_3 (by decide) (fun q3 => ?_) (fun q3 => ?_)
  · have K := Kt q3
    refine td_aload_n 0 dX4_insertTick_38 rfl ?_
    refine gf_X4_18 rfl kp_69 dX4_insertTick_39 ?_
    refine td_iload_n 3 dX4_insertTick_42 rfl ?_
    refine td_iload_n 1 dX4_insertTick_43 rfl ?_
    obtain ⟨e44, K⟩ := K
    refine td_iastc (j := (ix x3)) kp_72 (by decide) e44 rfl dX4_insertTick_44 ?_
    exact td_return rfl dX4_insertTick_45 K
  · have K := Kf q3
    refine td_aload_n 0 dX4_insertTick_6 rfl ?_
    refine gf_X4_18 rfl kp_69 dX4_insertTick_7 ?_
    refine td_iload_n 3 dX4_insertTick_10 rfl ?_
    refine td_iconst (v := 1) dX4_insertTick_11 (by decide) ?_
    refine td_isub dX4_insertTick_12 ?_
    obtain ⟨e13, K⟩ := K
    refine td_ialdc (j := (ix (x3 - 1))) kp_72 (by decide) e13 rfl dX4_insertTick_13 ?_
    refine td_iload_n 1 dX4_insertTick_14 rfl ?_
    obtain ⟨Kt, Kf⟩ := K
    refine td_icmp_le (tgt := 38) dX4_insertTick_15 (by decide) (fun q15 => ?_) (fun q15 => ?_)
    · have K := Kt q15
      refine td_aload_n 0 dX4_insertTick_38 rfl ?_
      refine gf_X4_18 rfl kp_69 dX4_insertTick_39 ?_
      refine td_iload_n 3 dX4_insertTick_42 rfl ?_
      refine td_iload_n 1 dX4_insertTick_43 rfl ?_
      obtain ⟨e44, K⟩ := K
      refine td_iastc (j := (ix x3)) kp_72 (by decide) e44 rfl dX4_insertTick_44 ?_
      exact td_return rfl dX4_insertTick_45 K
    · have K := Kf q15
      refine td_aload_n 0 dX4_insertTick_18 rfl ?_
      refine gf_X4_18 rfl kp_69 dX4_insertTick_19 ?_
      refine td_iload_n 3 dX4_insertTick_22 rfl ?_
      refine td_aload_n 0 dX4_insertTick_23 rfl ?_
      refine gf_X4_18 rfl kp_69 dX4_insertTick_24 ?_
      refine td_iload_n 3 dX4_insertTick_27 rfl ?_
      refine td_iconst (v := 1) dX4_insertTick_28 (by decide) ?_
      refine td_isub dX4_insertTick_29 ?_
      refine td_ialdc (j := (ix (x3 - 1))) kp_72 (by decide) e13 rfl dX4_insertTick_30 ?_
      obtain ⟨e31, K⟩ := K
      refine td_iastc (j := (ix x3)) kp_72 (by decide) e31 rfl dX4_insertTick_31 ?_
      obtain ⟨H31, E31⟩ : ∃ z : td_H, z = hu h 72 (ix x3) (h 72 (ix (x3 - 1))) := ⟨_, rfl⟩
      have K := K H31 E31
      refine td_eqh E31 ?_
      refine td_iinc 3 (v := x3 + (-1)) (lv2 := [(0, .ref 69), (1, .int x1), (2, .int x2), (3, .int (x3 + (-1)))]) dX4_insertTick_32 rfl (congrArg (x3 + ·) (by decide)) (by decide) rfl ?_
      refine td_goto (tgt := 2) dX4_insertTick_35 (by decide) ?_
      exact K
theorem c_O_insert {G : td_G} {d : Nat} {h : td_H} (f : Nat → Nat) (x e : Nat) (x1 x2 : Int32) (h1 : x1 = nI x) (h2 : x2 = nI e) (he : e < 6) (hx : x < 120) (hf : ∀ i, i < e → h 72 i = nI (f i) ∧ f i < 120) : td_C G d mX4_insertTick [.ref 69, .int x1, .int x2] h (fun r h' => r = none ∧ (∀ a b, a ≠ 72 → h' a b = h a b) ∧ ∀ i, i ≤ e → h' 72 i = nI (inS e f x i)) := by
  subst h1 h2
  refine td_entry rfl (Nat.le_of_ble_eq_true rfl) rfl (gX4_insertTick_0 ?_)
  have fin : ∀ u, u ≤ e → ∀ H : td_H, inP' f x e = u → (∀ a b, a ≠ 72 → H a b = h a b) → (∀ i, i < u → H 72 i = nI (f i)) → (∀ i, u ≤ i → i < e → H 72 (i + 1) = nI (f i)) → vp_in (nI u) 6 ∧ ((none : Option Value) = none ∧ (∀ a b, a ≠ 72 → (hu H 72 (ix (nI u)) (nI x)) a b = h a b) ∧ ∀ i, i ≤ e → (hu H 72 (ix (nI u)) (nI x)) 72 i = nI (inS e f x i)) := by
    intro u hu' H hp hH l1 l2
    refine ⟨vp_in_nI (by omega) (by decide), rfl, fun a b n => by rw [hu_app, if_neg (fun z => n z.1)]; exact hH a b n, fun i hi => ?_⟩
    rw [ixn (by omega), hu_app]
    unfold inS
    rw [hp]
    by_cases y1 : i < u
    · rw [if_neg (by omega), if_pos y1]; exact l1 i y1
    · rw [if_neg y1]
      by_cases y2 : i = u
      · rw [if_pos ⟨rfl, y2⟩, if_pos y2]
      · rw [if_neg (fun z => y2 z.2), if_neg y2]
        have z := l2 (i - 1) (by omega) (by omega)
        rw [show i - 1 + 1 = i by omega] at z
        exact z
  have loop : ∀ u, u ≤ e → ∀ H : td_H, inP' f x u = inP' f x e → (∀ a b, a ≠ 72 → H a b = h a b) → (∀ i, i < u → H 72 i = nI (f i)) → (∀ i, u ≤ i → i < e → H 72 (i + 1) = nI (f i)) → td_J G d mX4_insertTick (fun r h' => r = none ∧ (∀ a b, a ≠ 72 → h' a b = h a b) ∧ ∀ i, i ≤ e → h' 72 i = nI (inS e f x i)) 2 [(0, .ref 69), (1, .int (nI x)), (2, .int (nI e)), (3, .int (nI u))] [] H := by
    intro u
    induction u with
    | zero =>
      intro hu' H hp hH l1 l2
      exact gX4_insertTick_2 ⟨fun _ => fin 0 hu' H hp.symm hH l1 l2, fun y => absurd (by decide) y⟩
    | succ u ih =>
      intro hu' H hp hH l1 l2
      have e1 : nI (u + 1) - 1 = nI u := pk_sub (a := u + 1) (b := 1) (by omega)
      have fu := (hf u (by omega)).2
      rw [show inP' f x (u + 1) = if f u ≤ x then u + 1 else inP' f x u from rfl] at hp
      refine gX4_insertTick_2 ⟨fun y => absurd (le_of (b := 0) y) (by omega), fun _ => ?_⟩
      rw [e1, ixn (i := u) (by omega), l1 u (by omega)]
      refine ⟨vp_in_nI (by omega) (by decide), fun y => ?_, fun y => ?_⟩
      · have y2 := le_of y
        rw [if_pos y2] at hp
        exact fin (u + 1) hu' H hp.symm hH l1 l2
      · have y2 := nle_of y
        rw [if_neg (by omega)] at hp
        refine ⟨vp_in_nI (by omega) (by decide), fun H31 E31 => ?_⟩
        rw [show ix (nI (u + 1)) = u + 1 from ixn (by omega)] at E31
        refine td_to (ih (by omega) H31 hp (fun a b n => ?_) (fun i hi => ?_) (fun i h3 h4 => ?_)) ?_ rfl rfl
        · rw [E31, hu_app, if_neg (fun z => n z.1)]; exact hH a b n
        · rw [E31, hu_app, if_neg (by omega)]; exact l1 i (by omega)
        · rw [E31, hu_app]
          by_cases z : i = u
          · rw [if_pos ⟨rfl, by omega⟩, z]
          · rw [if_neg (by omega)]; exact l2 i (by omega) h4
        · rw [show nI (u + 1) + -1 = nI u from (Int32.sub_eq_add_neg _ _).symm.trans e1]
  exact loop e (Nat.le_refl e) h rfl (fun _ _ _ => rfl) (fun i hi => (hf i hi).1) (fun i h3 h4 => absurd h4 (by omega))
set_option maxRecDepth 20000 in
set_option maxHeartbeats 4000000 in
theorem gX4_begin_0 {G : td_G} {d : Nat} {Post : td_P} {k1 : Nat} {x2 : Int32} {h : td_H} (hk1 : td_kd k1 = 5) (K : ∀ H14 : td_H, H14 = hu (hu (hu h 69 4 x2) 69 5 120) 69 6 2147483647 → (td_J G (d + 1) mX4_begin Post 24 [(0, .ref 69), (1, .ref k1), (2, .int x2), (3, .int 0)] [] (hu H14 69 3 0))) : td_J G (d + 1) mX4_begin Post 0 [(0, .ref 69), (1, .ref k1), (2, .int x2)] [] h := by
  refine td_aload_n 0 dX4_begin_0 rfl ?_
  refine td_iload_n 2 dX4_begin_1 rfl ?_
  refine pf_X4_21 rfl kp_69 dX4_begin_2 ?_
  refine td_aload_n 0 dX4_begin_5 rfl ?_
  refine td_bipush (v := 120) dX4_begin_6 (by decide) ?_
  refine pf_X4_25 rfl kp_69 dX4_begin_8 ?_
  refine td_aload_n 0 dX4_begin_11 rfl ?_
  refine td_ldc (v := 2147483647) kw_X4_30 dX4_begin_12 ?_
  refine pf_X4_31 rfl kp_69 dX4_begin_14 ?_
  obtain ⟨H14, E14⟩ : ∃ z : td_H, z = hu (hu (hu h 69 4 x2) 69 5 120) 69 6 2147483647 := ⟨_, rfl⟩
  have K := K H14 E14
  refine td_eqh E14 ?_
  refine td_aload_n 0 dX4_begin_17 rfl ?_
  refine td_iconst (v := 0) dX4_begin_18 (by decide) ?_
  refine pf_X4_34 rfl kp_69 dX4_begin_19 ?_
  refine td_iconst (v := 0) dX4_begin_22 (by decide) ?_
  refine td_istore_n (lv2 := [(0, .ref 69), (1, .ref k1), (2, .int x2), (3, .int 0)]) dX4_begin_23 (by decide) rfl ?_
  exact K
set_option maxRecDepth 20000 in
set_option maxHeartbeats 4000000 in
theorem gX4_begin_24 {G : td_G} {d : Nat} {Post : td_P} {e xt : Nat} {f : Nat → Nat} {k1 : Nat} {x2 x3 : Int32} {h : td_H} (hk1 : td_kd k1 = 5) (K : ((h k1 4) ≤ x3 → (Post none h)) ∧ (¬ (h k1 4) ≤ x3 → ((6 ≤ (h 69 3) → (Post none h)) ∧ (¬ 6 ≤ (h 69 3) → ((((jshr x2 x3) &&& 1) = 0 → td_J G (d + 1) mX4_begin Post 24 [(0, .ref 69), (1, .ref k1), (2, .int x2), (3, .int (x3 + 1))] [] h) ∧ (¬ ((jshr x2 x3) &&& 1) = 0 → (vp_in (h 69 3) 6 ∧ (vp_in x3 12 ∧ (((hu h 70 (ix (h 69 3)) x3) (k1 + 2) (ix x3)) = nI xt ∧ ((hu h 70 (ix (h 69 3)) x3) 69 3) = nI e ∧ e < 6 ∧ xt < 120 ∧ (∀ i, i < e → (hu h 70 (ix (h 69 3)) x3) 72 i = nI (f i) ∧ f i < 120) ∧ (∀ h70 : td_H, ((∀ a b, a ≠ 72 → h70 a b = (hu h 70 (ix (h 69 3)) x3) a b) ∧ ∀ i, i ≤ e → h70 72 i = nI (inS e f xt i)) → (td_J G (d + 1) mX4_begin Post 24 [(0, .ref 69), (1, .ref k1), (2, .int x2), (3, .int (x3 + 1))] [] (hu h70 69 3 ((h70 69 3) + 1))))))))))))) : td_J G (d + 1) mX4_begin Post 24 [(0, .ref 69), (1, .ref k1), (2, .int x2), (3, .int x3)] [] h := by
  refine td_iload_n 3 dX4_begin_24 rfl ?_
  refine td_aload_n 1 dX4_begin_25 rfl ?_
  refine gf_X4_37 rfl hk1 dX4_begin_26 ?_
  obtain ⟨Kt, Kf⟩ := K
  refine td_icmp_ge (tgt := 89) dX4_begin_29 (by decide) (fun q29 => ?_) (fun q29 => ?_)
  · have K := Kt q29
    exact td_return rfl dX4_begin_89 K
  · have K := Kf q29
    refine td_aload_n 0 dX4_begin_32 rfl ?_
    refine gf_X4_34 rfl kp_69 dX4_begin_33 ?_
    refine td_bipush (v := 6) dX4_begin_36 (by decide) ?_
    obtain ⟨Kt, Kf⟩ := K
    refine td_icmp_ge (tgt := 89) dX4_begin_38 (by decide) (fun q38 => ?_) (fun q38 => ?_)
    · have K := Kt q38
      exact td_return rfl dX4_begin_89 K
    · have K := Kf q38
      refine td_iload_n 2 dX4_begin_41 rfl ?_
      refine td_iload_n 3 dX4_begin_42 rfl ?_
      refine td_ishr dX4_begin_43 ?_
      refine td_iconst (v := 1) dX4_begin_44 (by decide) ?_
      refine td_iand dX4_begin_45 ?_
      obtain ⟨Kt, Kf⟩ := K
      refine td_if_eq (tgt := 83) dX4_begin_46 (by decide) (fun q46 => ?_) (fun q46 => ?_)
      · have K := Kt q46
        refine td_iinc 3 (v := x3 + 1) (lv2 := [(0, .ref 69), (1, .ref k1), (2, .int x2), (3, .int (x3 + 1))]) dX4_begin_83 rfl (congrArg (x3 + ·) (by decide)) (by decide) rfl ?_
        refine td_goto (tgt := 24) dX4_begin_86 (by decide) ?_
        exact K
      · have K := Kf q46
        refine td_aload_n 0 dX4_begin_49 rfl ?_
        refine gf_X4_9 rfl kp_69 dX4_begin_50 ?_
        refine td_aload_n 0 dX4_begin_53 rfl ?_
        refine gf_X4_34 rfl kp_69 dX4_begin_54 ?_
        refine td_iload_n 3 dX4_begin_57 rfl ?_
        obtain ⟨e58, K⟩ := K
        refine td_iastc (j := (ix (h 69 3))) kp_70 (by decide) e58 rfl dX4_begin_58 ?_
        refine td_aload_n 0 dX4_begin_59 rfl ?_
        refine td_aload_n 1 dX4_begin_60 rfl ?_
        refine gf_X4_42 rfl hk1 dX4_begin_61 ?_
        refine td_iload_n 3 dX4_begin_64 rfl ?_
        obtain ⟨e65, K⟩ := K
        refine td_ialdc (j := (ix x3)) (kd_5_1 hk1) (by decide) e65 rfl dX4_begin_65 ?_
        refine td_aload_n 0 dX4_begin_66 rfl ?_
        refine gf_X4_34 rfl kp_69 dX4_begin_67 ?_
        obtain ⟨e70_0, K⟩ := K
        obtain ⟨e70_1, K⟩ := K
        obtain ⟨e70_2, K⟩ := K
        obtain ⟨e70_3, K⟩ := K
        obtain ⟨e70_4, K⟩ := K
        refine cl_X4_43 rfl kp_69 dX4_begin_70 (Nat.le_of_ble_eq_true rfl) (c_O_insert f xt e ((hu h 70 (ix (h 69 3)) x3) (k1 + 2) (ix x3)) ((hu h 70 (ix (h 69 3)) x3) 69 3) e70_0 e70_1 e70_2 e70_3 e70_4) ?_
        rintro _ h70 ⟨rfl, f70⟩
        have K := K h70 f70
        refine td_eqs (st2 := []) rfl ?_
        refine td_aload_n 0 dX4_begin_73 rfl ?_
        refine td_dup dX4_begin_74 rfl ?_
        refine gf_X4_34 rfl kp_69 dX4_begin_75 ?_
        refine td_iconst (v := 1) dX4_begin_78 (by decide) ?_
        refine td_iadd dX4_begin_79 ?_
        refine pf_X4_34 rfl kp_69 dX4_begin_80 ?_
        refine td_iinc 3 (v := x3 + 1) (lv2 := [(0, .ref 69), (1, .ref k1), (2, .int x2), (3, .int (x3 + 1))]) dX4_begin_83 rfl (congrArg (x3 + ·) (by decide)) (by decide) rfl ?_
        refine td_goto (tgt := 24) dX4_begin_86 (by decide) ?_
        exact K
theorem ct_top {v n : Nat} (hn : n ≤ 12) (hv : v < 2 ^ n) : fb_ct (bits v) n = popc v := by
  have z : ∀ k, n + k ≤ 12 → fb_ct (bits v) (n + k) = fb_ct (bits v) n := by
    intro k
    induction k with
    | zero => intro _; rfl
    | succ k ih =>
      intro h
      have : bits v (n + k) = false := Nat.testBit_lt_two_pow (Nat.lt_of_lt_of_le hv (Nat.pow_le_pow_right (by decide) (by omega)))
      rw [← Nat.add_assoc, fb_ct_succ, ih (by omega), this]
      rfl
  have y := z (12 - n) (by omega)
  rw [show n + (12 - n) = 12 by omega] at y
  exact y.symm
theorem bit_of {v p : Nat} (hv : v < 4096) (hp : p < 12) : jshr (nI v) (nI p) &&& 1 = if bits v p = true then 1 else 0 := by
  rw [jshr_nI (by omega) (by omega), show (1 : Int32) = nI 1 from rfl, fa_and, Nat.and_one_is_mod]
  unfold bits
  rw [Nat.testBit_eq_decide_div_mod_eq]
  by_cases z : v / 2 ^ p % 2 = 1
  · rw [z, if_pos (by simp)]
  · have : v / 2 ^ p % 2 = 0 := by omega
    rw [this, if_neg (by simp)]
    rfl
/-- the order's picture of the i-th row -/
def orR (g : nH) (v i : Nat) (h : td_H) : Prop := h 69 3 = nI (popc v) ∧ (∀ a, a < popc v → h 70 a = nI (wh v (prm (popc v) i a))) ∧ ∀ a, a < popc v → h 72 a = nI (tkF g v (popc v) a)
theorem prm_0 {K : Nat} (h1 : 1 ≤ K) (h6 : K ≤ 6) {a : Nat} (ha : a < K) : prm K 0 a = a := (by decide +kernel : ∀ K, K < 7 → ∀ a, a < K → prm K 0 a = a) K (by omega) a ha
/-- those who may be ordered -/
def ordV (g : nH) (v : Nat) : Prop := 1 ≤ popc v ∧ popc v ≤ 6 ∧ v < 2 ^ g 1 0
theorem c_O_begin {G : td_G} {d : Nat} {h : td_H} {q : Nat} {g : nH} (hq : td_kd q = 5) (v : Nat) (x : Int32) (hx : x = nI v) (hP : dP g q h) (hv : ordV g v) : td_C G (d + 1) mX4_begin [.ref 69, .ref q, .int x] h (fun r h' => r = none ∧ (∀ a b, ¬ ((a = 69 ∧ 3 ≤ b) ∨ a = 70 ∨ a = 72) → h' a b = h a b) ∧ orR g v 0 h' ∧ h' 69 4 = nI v ∧ h' 69 5 = 120 ∧ h' 69 6 = 2147483647) := by
  subst hx
  obtain ⟨v1, v6, vn⟩ := hv
  have hn := hP.1.n
  have hv12 : v < 4096 := Nat.lt_of_lt_of_le vn (Nat.pow_le_pow_right (by decide) hn)
  have kq : q ≤ 64 := (by decide +kernel : ∀ k, k < 107 → td_kd k = 5 → k ≤ 64) q (td_kd_lt hq (by decide)) hq
  refine td_entry rfl (Nat.le_of_ble_eq_true rfl) rfl (gX4_begin_0 hq ?_)
  intro H14 E14
  have loop : ∀ u p (h1 : td_H), p + u = g 1 0 → (∀ a b, ¬ ((a = 69 ∧ 3 ≤ b) ∨ a = 70 ∨ a = 72) → h1 a b = h a b) → h1 69 3 = nI (fb_ct (bits v) p) → (∀ a, a < fb_ct (bits v) p → h1 70 a = nI (wh v a) ∧ h1 72 a = nI (tkF g v (fb_ct (bits v) p) a)) → h1 69 4 = nI v → h1 69 5 = 120 → h1 69 6 = 2147483647 → td_J G (d + 1) mX4_begin (fun r h' => r = none ∧ (∀ a b, ¬ ((a = 69 ∧ 3 ≤ b) ∨ a = 70 ∨ a = 72) → h' a b = h a b) ∧ orR g v 0 h' ∧ h' 69 4 = nI v ∧ h' 69 5 = 120 ∧ h' 69 6 = 2147483647) 24 [(0, .ref 69), (1, .ref q), (2, .int (nI v)), (3, .int (nI p))] [] h1 := by
    intro u
    have fin : ∀ p (h1 : td_H), fb_ct (bits v) p = popc v → (∀ a b, ¬ ((a = 69 ∧ 3 ≤ b) ∨ a = 70 ∨ a = 72) → h1 a b = h a b) → h1 69 3 = nI (fb_ct (bits v) p) → (∀ a, a < fb_ct (bits v) p → h1 70 a = nI (wh v a) ∧ h1 72 a = nI (tkF g v (fb_ct (bits v) p) a)) → h1 69 4 = nI v → h1 69 5 = 120 → h1 69 6 = 2147483647 → ((none : Option Value) = none ∧ (∀ a b, ¬ ((a = 69 ∧ 3 ≤ b) ∨ a = 70 ∨ a = 72) → h1 a b = h a b) ∧ orR g v 0 h1 ∧ h1 69 4 = nI v ∧ h1 69 5 = 120 ∧ h1 69 6 = 2147483647) := by
      intro p h1 he hF h3 hr h4 h5 h6
      rw [he] at h3 hr
      exact ⟨rfl, hF, ⟨h3, fun a ha => by rw [prm_0 v1 v6 ha]; exact (hr a ha).1, fun a ha => (hr a ha).2⟩, h4, h5, h6⟩
    induction u with
    | zero =>
      intro p h1 hp hF h3 hr h4 h5 h6
      have e4 : h1 q 4 = nI (g 1 0) := by rw [hF _ _ (by omega)]; exact hP.2.2.1
      have : p = g 1 0 := by omega
      subst this
      refine gX4_begin_24 (e := 0) (xt := 0) (f := fun _ => 0) hq ⟨fun _ => fin _ h1 (ct_top hn vn) hF h3 hr h4 h5 h6, fun y => absurd (nle_of (by rw [e4] at y; exact y)) (by omega)⟩
    | succ u ih =>
      intro p h1 hp hF h3 hr h4 h5 h6
      have e4 : h1 q 4 = nI (g 1 0) := by rw [hF _ _ (by omega)]; exact hP.2.2.1
      have cle := fb_ct_le (bits v) p
      have ctop : fb_ct (bits v) p ≤ popc v := fb_ct_mono (bits v) (by omega)
      refine gX4_begin_24 (e := fb_ct (bits v) p) (xt := g 4 p) (f := tkF g v (fb_ct (bits v) p)) hq ?_
      rw [e4, h3, bit_of hv12 (by omega), ixn (i := fb_ct (bits v) p) (by omega)]
      refine ⟨fun y => absurd (le_of y) (by omega), fun _ => ⟨fun y => ?_, fun y => ⟨fun z => ?_, fun z => ?_⟩⟩⟩
      · have y2 := le_of (a := 6) y
        have w := fin p h1 (by omega) hF h3 hr h4 h5 h6
        exact w
      · have z2 : ¬ bits v p = true := fun w => by rw [if_pos w] at z; exact absurd z (by decide)
        have sc : fb_ct (bits v) (p + 1) = fb_ct (bits v) p := by rw [fb_ct_succ, if_neg z2]; rfl
        refine td_to (ih (p + 1) h1 (by omega) hF (by rw [sc]; exact h3) (by rw [sc]; exact hr) h4 h5 h6) (by rw [nI_1]) rfl rfl
      · have z2 : bits v p = true := by
          by_cases w : bits v p = true
          · exact w
          · rw [if_neg w] at z; exact absurd rfl z
        have y2 := nle_of (a := 6) y
        have sc : fb_ct (bits v) (p + 1) = fb_ct (bits v) p + 1 := by rw [fb_ct_succ, if_pos z2]
        have hpn : p < g 1 0 := by omega
        have wp : wh v (fb_ct (bits v) p) = p := wh_of (by omega) z2
        generalize hm : fb_ct (bits v) p = m at *
        refine ⟨vp_in_nI (by omega) (by decide), vp_in_nI (by omega) (by decide), ?_, ?_, by omega, (hP.1.p hpn).2.2, fun i hi => ⟨?_, tkF_lt vn (fun p hp => (hP.1.p hp).2.2) m (by omega) i⟩, fun h70 hh => ?_⟩
        · rw [hu_app, if_neg (by omega), ixn (by omega), hF _ _ (by omega)]; exact (hP.2.2.2 p hpn).1
        · rw [hu_app, if_neg (by omega)]; exact h3
        · rw [hu_app, if_neg (by omega)]; exact (hr i hi).2
        · obtain ⟨g1, g2⟩ := hh
          have k3 : h70 69 3 = nI m := by rw [g1 _ _ (by omega), hu_app, if_neg (by omega)]; exact h3
          rw [k3, nI_1, nI_1]
          refine ih (p + 1) _ (by omega) (fun a b n => ?_) (by rw [hu_app, if_pos ⟨rfl, rfl⟩, sc]) (fun a ha => ?_) ?_ ?_ ?_
          · rw [hu_app, if_neg (by omega), g1 _ _ (by omega), hu_app, if_neg (by omega)]; exact hF a b n
          · rw [sc] at ha ⊢
            refine ⟨?_, ?_⟩
            · rw [hu_app, if_neg (by omega), g1 _ _ (by omega), hu_app]
              by_cases w : a = m
              · rw [if_pos ⟨rfl, w⟩, w, wp]
              · rw [if_neg (fun s => w s.2)]; exact (hr a (by omega)).1
            · rw [hu_app, if_neg (by omega), g2 a (by omega)]
              show nI (inS m (tkF g v m) (g 4 p) a) = nI (inS m (tkF g v m) (g 4 (wh v m)) a)
              rw [wp]
          · rw [hu_app, if_neg (by omega), g1 _ _ (by omega), hu_app, if_neg (by omega)]; exact h4
          · rw [hu_app, if_neg (by omega), g1 _ _ (by omega), hu_app, if_neg (by omega)]; exact h5
          · rw [hu_app, if_neg (by omega), g1 _ _ (by omega), hu_app, if_neg (by omega)]; exact h6
  refine loop (g 1 0) 0 _ (by omega) (fun a b n => ?_) ?_ (fun a ha => absurd ha (by show ¬ a < 0; omega)) ?_ ?_ ?_
  · rw [hu_app, if_neg (by omega), E14, hu_app, if_neg (by omega), hu_app, if_neg (by omega), hu_app, if_neg (by omega)]
  · rw [hu_app, if_pos ⟨rfl, rfl⟩]; rfl
  · rw [hu_app, if_neg (by omega), E14, hu_app, if_neg (by omega), hu_app, if_neg (by omega), hu_app, if_pos ⟨rfl, rfl⟩]
  · rw [hu_app, if_neg (by omega), E14, hu_app, if_neg (by omega), hu_app, if_pos ⟨rfl, rfl⟩]
  · rw [hu_app, if_neg (by omega), E14, hu_app, if_pos ⟨rfl, rfl⟩]
set_option maxRecDepth 20000 in
set_option maxHeartbeats 4000000 in
theorem gX4_isNew_0 {G : td_G} {d : Nat} {Post : td_P} {h : td_H} (K : td_J G d mX4_isNew Post 2 [(0, .ref 69), (1, .int 1)] [] h) : td_J G d mX4_isNew Post 0 [(0, .ref 69)] [] h := by
  refine td_iconst (v := 1) dX4_isNew_0 (by decide) ?_
  refine td_istore_n (lv2 := [(0, .ref 69), (1, .int 1)]) dX4_isNew_1 (by decide) rfl ?_
  exact K
set_option maxRecDepth 20000 in
set_option maxHeartbeats 4000000 in
theorem gX4_isNew_2 {G : td_G} {d : Nat} {Post : td_P} {x1 : Int32} {h : td_H} (K : ((h 69 3) ≤ x1 → (Post (some (.int 1)) h)) ∧ (¬ (h 69 3) ≤ x1 → (vp_in (x1 - 1) 6 ∧ (vp_in x1 6 ∧ ((¬ (h 72 (ix (x1 - 1))) = (h 72 (ix x1)) → td_J G d mX4_isNew Post 2 [(0, .ref 69), (1, .int (x1 + 1))] [] h) ∧ ((h 72 (ix (x1 - 1))) = (h 72 (ix x1)) → (((h 70 (ix (x1 - 1))) ≤ (h 70 (ix x1)) → td_J G d mX4_isNew Post 2 [(0, .ref 69), (1, .int (x1 + 1))] [] h) ∧ (¬ (h 70 (ix (x1 - 1))) ≤ (h 70 (ix x1)) → (Post (some (.int 0)) h))))))))) : td_J G d mX4_isNew Post 2 [(0, .ref 69), (1, .int x1)] [] h := by
  refine td_iload_n 1 dX4_isNew_2 rfl ?_
  refine td_aload_n 0 dX4_isNew_3 rfl ?_
  refine gf_X4_34 rfl kp_69 dX4_isNew_4 ?_
  obtain ⟨Kt, Kf⟩ := K
  refine td_icmp_ge (tgt := 52) dX4_isNew_7 (by decide) (fun q7 => ?_) (fun q7 => ?_)
  · have K := Kt q7
    refine td_iconst (v := 1) dX4_isNew_52 (by decide) ?_
    exact td_zreturn rfl rfl dX4_isNew_53 K
  · have K := Kf q7
    refine td_aload_n 0 dX4_isNew_10 rfl ?_
    refine gf_X4_18 rfl kp_69 dX4_isNew_11 ?_
    refine td_iload_n 1 dX4_isNew_14 rfl ?_
    refine td_iconst (v := 1) dX4_isNew_15 (by decide) ?_
    refine td_isub dX4_isNew_16 ?_
    obtain ⟨e17, K⟩ := K
    refine td_ialdc (j := (ix (x1 - 1))) kp_72 (by decide) e17 rfl dX4_isNew_17 ?_
    refine td_aload_n 0 dX4_isNew_18 rfl ?_
    refine gf_X4_18 rfl kp_69 dX4_isNew_19 ?_
    refine td_iload_n 1 dX4_isNew_22 rfl ?_
    obtain ⟨e23, K⟩ := K
    refine td_ialdc (j := (ix x1)) kp_72 (by decide) e23 rfl dX4_isNew_23 ?_
    obtain ⟨Kt, Kf⟩ := K
    refine td_icmp_ne (tgt := 46) dX4_isNew_24 (by decide) (fun q24 => ?_) (fun q24 => ?_)
    · have K := Kt q24
      refine td_iinc 1 (v := x1 + 1) (lv2 := [(0, .ref 69), (1, .int (x1 + 1))]) dX4_isNew_46 rfl (congrArg (x1 + ·) (by decide)) (by decide) rfl ?_
      refine td_goto (tgt := 2) dX4_isNew_49 (by decide) ?_
      exact K
    · have K := Kf q24
      refine td_aload_n 0 dX4_isNew_27 rfl ?_
      refine gf_X4_9 rfl kp_69 dX4_isNew_28 ?_
      refine td_iload_n 1 dX4_isNew_31 rfl ?_
      refine td_iconst (v := 1) dX4_isNew_32 (by decide) ?_
      refine td_isub dX4_isNew_33 ?_
      refine td_ialdc (j := (ix (x1 - 1))) kp_70 (by decide) e17 rfl dX4_isNew_34 ?_
      refine td_aload_n 0 dX4_isNew_35 rfl ?_
      refine gf_X4_9 rfl kp_69 dX4_isNew_36 ?_
      refine td_iload_n 1 dX4_isNew_39 rfl ?_
      refine td_ialdc (j := (ix x1)) kp_70 (by decide) e23 rfl dX4_isNew_40 ?_
      obtain ⟨Kt, Kf⟩ := K
      refine td_icmp_le (tgt := 46) dX4_isNew_41 (by decide) (fun q41 => ?_) (fun q41 => ?_)
      · have K := Kt q41
        refine td_iinc 1 (v := x1 + 1) (lv2 := [(0, .ref 69), (1, .int (x1 + 1))]) dX4_isNew_46 rfl (congrArg (x1 + ·) (by decide)) (by decide) rfl ?_
        refine td_goto (tgt := 2) dX4_isNew_49 (by decide) ?_
        exact K
      · have K := Kf q41
        refine td_iconst (v := 0) dX4_isNew_44 (by decide) ?_
        exact td_zreturn rfl rfl dX4_isNew_45 K
def nwB (g : nH) (v i : Nat) : Bool := allB (fun a => !(decide (tkF g v (popc v) a = tkF g v (popc v) (a + 1)) && decide (prm (popc v) i (a + 1) < prm (popc v) i a))) (popc v - 1)
theorem c_O_isNew {G : td_G} {d : Nat} {h : td_H} {g : nH} {v i : Nat} (hwf : wfC g) (hv : ordV g v) (hi : i < fct (popc v)) (hr : orR g v i h) : td_C G d mX4_isNew [.ref 69] h (eR (b2i (nwB g v i = true)) h) := by
  obtain ⟨v1, v6, vn⟩ := hv
  obtain ⟨r3, r70, r72⟩ := hr
  have hlt := fun a => tkF_lt (g := g) vn (fun p hp => (hwf.p hp).2.2) (popc v) (Nat.le_refl _) a
  have pf := prm_facts v1 v6 hi
  refine td_entry rfl (Nat.le_of_ble_eq_true rfl) rfl (gX4_isNew_0 ?_)
  have loop : ∀ u a, a + 1 + u = popc v → (∀ b, b < a → (!(decide (tkF g v (popc v) b = tkF g v (popc v) (b + 1)) && decide (prm (popc v) i (b + 1) < prm (popc v) i b))) = true) → td_J G d mX4_isNew (eR (b2i (nwB g v i = true)) h) 2 [(0, .ref 69), (1, .int (nI (a + 1)))] [] h := by
    intro u
    induction u with
    | zero =>
      intro a ha hb
      refine gX4_isNew_2 ?_
      rw [r3]
      refine ⟨fun _ => ⟨?_, rfl⟩, fun y => absurd (nle_of y) (by omega)⟩
      rw [show b2i (nwB g v i = true) = 1 from b2i_1.mpr (allB_iff.mpr (fun b hb2 => hb b (by omega)))]
    | succ u ih =>
      intro a ha hb
      have e1 : nI (a + 1) - 1 = nI a := pk_sub (a := a + 1) (b := 1) (by omega)
      have t1 := hlt a
      have t2 := hlt (a + 1)
      have p1 := pf.2.1 a (by omega)
      have p2 := pf.2.1 (a + 1) (by omega)
      have w1 := (wh_in (v := v) p1).1
      have w2 := (wh_in (v := v) p2).1
      refine gX4_isNew_2 ?_
      rw [r3, e1, ixn (i := a) (by omega), ixn (i := a + 1) (by omega), r72 a (by omega), r72 (a + 1) (by omega), r70 a (by omega), r70 (a + 1) (by omega)]
      have go : (!(decide (tkF g v (popc v) a = tkF g v (popc v) (a + 1)) && decide (prm (popc v) i (a + 1) < prm (popc v) i a))) = true → td_J G d mX4_isNew (eR (b2i (nwB g v i = true)) h) 2 [(0, .ref 69), (1, .int (nI (a + 1) + 1))] [] h := fun z => by
        refine td_to (ih (a + 1) (by omega) (fun b hb2 => ?_)) (by rw [nI_1]) rfl rfl
        rcases Nat.lt_or_ge b a with y | y
        · exact hb b y
        · rw [show b = a by omega]; exact z
      refine ⟨fun y => absurd (le_of y) (by omega), fun _ => ⟨vp_in_nI (by omega) (by decide), vp_in_nI (by omega) (by decide), fun y => go ?_, fun y => ⟨fun z => go ?_, fun z => ⟨?_, rfl⟩⟩⟩⟩
      · have y2 : ¬ tkF g v (popc v) a = tkF g v (popc v) (a + 1) := fun w => y (by rw [w])
        simp [y2]
      · have z2 := le_of z
        have : ¬ prm (popc v) i (a + 1) < prm (popc v) i a := fun w => by
          have := (wh_lt p2 p1).mpr w
          omega
        simp [this]
      · have y2 : tkF g v (popc v) a = tkF g v (popc v) (a + 1) := eq_of y
        have z2 := (wh_lt p2 p1).mp (nle_of z)
        rw [show b2i (nwB g v i = true) = 0 from b2i_0.mpr (fun w => by
          have := allB_iff.mp w a (by omega)
          simp [y2, z2] at this)]
  exact loop (popc v - 1) 0 (by omega) (fun b hb => absurd hb (by omega))
set_option maxRecDepth 20000 in
set_option maxHeartbeats 4000000 in
theorem gX4_deal_0 {G : td_G} {d : Nat} {Post : td_P} {k1 : Nat} {h : td_H} (hk1 : td_kd k1 = 5) (K : td_J G d mX4_deal Post 2 [(0, .ref 69), (1, .ref k1), (2, .int 0)] [] h) : td_J G d mX4_deal Post 0 [(0, .ref 69), (1, .ref k1)] [] h := by
  refine td_iconst (v := 0) dX4_deal_0 (by decide) ?_
  refine td_istore_n (lv2 := [(0, .ref 69), (1, .ref k1), (2, .int 0)]) dX4_deal_1 (by decide) rfl ?_
  exact K
set_option maxRecDepth 20000 in
set_option maxHeartbeats 4000000 in
theorem gX4_deal_2 {G : td_G} {d : Nat} {Post : td_P} {k1 : Nat} {x2 : Int32} {h : td_H} (hk1 : td_kd k1 = 5) (K : ((h 69 3) ≤ x2 → (Post none h)) ∧ (¬ (h 69 3) ≤ x2 → (vp_in x2 6 ∧ (vp_in (h 70 (ix x2)) 12 ∧ (∀ H26 : td_H, H26 = hu h (k1 + 2) (ix (h 70 (ix x2))) (h 72 (ix x2)) → (td_J G d mX4_deal Post 2 [(0, .ref 69), (1, .ref k1), (2, .int (x2 + 1))] [] H26)))))) : td_J G d mX4_deal Post 2 [(0, .ref 69), (1, .ref k1), (2, .int x2)] [] h := by
  refine td_iload_n 2 dX4_deal_2 rfl ?_
  refine td_aload_n 0 dX4_deal_3 rfl ?_
  refine gf_X4_34 rfl kp_69 dX4_deal_4 ?_
  obtain ⟨Kt, Kf⟩ := K
  refine td_icmp_ge (tgt := 33) dX4_deal_7 (by decide) (fun q7 => ?_) (fun q7 => ?_)
  · have K := Kt q7
    exact td_return rfl dX4_deal_33 K
  · have K := Kf q7
    refine td_aload_n 1 dX4_deal_10 rfl ?_
    refine gf_X4_42 rfl hk1 dX4_deal_11 ?_
    refine td_aload_n 0 dX4_deal_14 rfl ?_
    refine gf_X4_9 rfl kp_69 dX4_deal_15 ?_
    refine td_iload_n 2 dX4_deal_18 rfl ?_
    obtain ⟨e19, K⟩ := K
    refine td_ialdc (j := (ix x2)) kp_70 (by decide) e19 rfl dX4_deal_19 ?_
    refine td_aload_n 0 dX4_deal_20 rfl ?_
    refine gf_X4_18 rfl kp_69 dX4_deal_21 ?_
    refine td_iload_n 2 dX4_deal_24 rfl ?_
    refine td_ialdc (j := (ix x2)) kp_72 (by decide) e19 rfl dX4_deal_25 ?_
    obtain ⟨e26, K⟩ := K
    refine td_iastc (j := (ix (h 70 (ix x2)))) (kd_5_1 hk1) (by decide) e26 rfl dX4_deal_26 ?_
    obtain ⟨H26, E26⟩ : ∃ z : td_H, z = hu h (k1 + 2) (ix (h 70 (ix x2))) (h 72 (ix x2)) := ⟨_, rfl⟩
    have K := K H26 E26
    refine td_eqh E26 ?_
    refine td_iinc 2 (v := x2 + 1) (lv2 := [(0, .ref 69), (1, .ref k1), (2, .int (x2 + 1))]) dX4_deal_27 rfl (congrArg (x2 + ·) (by decide)) (by decide) rfl ?_
    refine td_goto (tgt := 2) dX4_deal_30 (by decide) ?_
    exact K
theorem c_O_deal {G : td_G} {d : Nat} {h : td_H} {g c' : nH} {v i q : Nat} (hq : td_kd q = 5) (hwf : wfC g) (hv : ordV g v) (hi : i < fct (popc v)) (hr : orR g v i h) (hP : dP c' q h) (hc : ∀ a b, ¬ (a = 4 ∧ bits v b = true) → c' a b = g a b) : td_C G d mX4_deal [.ref 69, .ref q] h (fun r h' => r = none ∧ (∀ a b, a ≠ q + 2 → h' a b = h a b) ∧ dP (cfgO g v i) q h') := by
  have hv0 := hv
  obtain ⟨v1, v6, vn⟩ := hv
  obtain ⟨r3, r70, r72⟩ := hr
  have kq : q ≤ 64 := (by decide +kernel : ∀ k, k < 107 → td_kd k = 5 → k ≤ 64) q (td_kd_lt hq (by decide)) hq
  have pf := prm_facts v1 v6 hi
  have hn := hwf.n
  refine td_entry rfl (Nat.le_of_ble_eq_true rfl) rfl (gX4_deal_0 hq ?_)
  refine td_forH (popc v) (fun m => [(0, .ref 69), (1, .ref q), (2, .int (nI m))]) (fun m h1 => (∀ a b, a ≠ q + 2 → h1 a b = h a b) ∧ (∀ a, a < m → h1 (q + 2) (wh v (prm (popc v) i a)) = nI (tkF g v (popc v) a)) ∧ ∀ p, (∀ a, a < m → p ≠ wh v (prm (popc v) i a)) → h1 (q + 2) p = h (q + 2) p) rfl ⟨fun _ _ _ => rfl, fun a ha => absurd ha (by omega), fun _ _ => rfl⟩ (fun m hm h1 hI ih => ?_) (fun h1 hI => ?_)
  · obtain ⟨hF, hA, hB⟩ := hI
    have p1 := pf.2.1 m hm
    have w1 := (wh_in (v := v) p1).1
    refine gX4_deal_2 hq ?_
    rw [hF 69 3 (by omega), r3, ixn (i := m) (by omega), hF 70 m (by omega), hF 72 m (by omega), r70 m hm, r72 m hm, ixn (by omega)]
    refine ⟨fun y => absurd (le_of y) (by omega), fun _ => ⟨vp_in_nI (by omega) (by decide), vp_in_nI w1 (by decide), fun H26 E26 => ?_⟩⟩
    refine td_to (ih H26 ⟨fun a b n => ?_, fun a ha => ?_, fun p hp => ?_⟩) (by rw [nI_1]) rfl rfl
    · rw [E26, hu_app, if_neg (fun z => n z.1)]; exact hF a b n
    · rw [E26, hu_app]
      by_cases z : a = m
      · rw [if_pos ⟨rfl, by rw [z]⟩, z]
      · rw [if_neg (fun w => z ?_)]
        · exact hA a (by omega)
        · have e : wh v (prm (popc v) i a) = wh v (prm (popc v) i m) := w.2
          have pa := pf.2.1 a (by omega)
          have e2 : prm (popc v) i a = prm (popc v) i m := by
            have a1 := (wh_in (v := v) pa).2.2
            have a2 := (wh_in (v := v) p1).2.2
            rw [e, a2] at a1
            exact a1.symm
          exact pf.2.2.2.1 m a hm (by omega) e2
    · rw [E26, hu_app, if_neg (fun z => hp m (by omega) z.2)]
      exact hB p (fun a ha => hp a (by omega))
  · obtain ⟨hF, hA, hB⟩ := hI
    refine gX4_deal_2 hq ?_
    rw [hF 69 3 (by omega), r3]
    refine ⟨fun _ => ⟨rfl, hF, cfgO_wf hwf vn i, fun j hj => ?_, ?_, fun p hp => ?_⟩, fun y => absurd (nle_of y) (by omega)⟩
    · rw [hF _ _ (by omega), cfgO_o g v i 0 j (by decide), ← hc 0 j (by omega)]; exact hP.2.1 j hj
    · rw [hF _ _ (by omega), cfgO_o g v i 1 0 (by decide), ← hc 1 0 (by omega)]; exact hP.2.2.1
    · rw [cfgO_o g v i 1 0 (by decide)] at hp
      have hp' : p < c' 1 0 := by rw [hc 1 0 (by omega)]; exact hp
      rw [hF (q + 3) p (by omega), hF (q + 4) p (by omega), cfgO_o g v i 2 p (by decide), cfgO_o g v i 3 p (by decide), ← hc 2 p (by omega), ← hc 3 p (by omega)]
      refine ⟨?_, (hP.2.2.2 p hp').2⟩
      by_cases z : bits v p = true
      · have hx : fb_ct (bits v) p < popc v := by
          have := fb_ct_mono (bits v) (show p + 1 ≤ 12 by omega)
          rw [fb_ct_succ, if_pos z] at this
          show fb_ct (bits v) p < fb_ct (bits v) 12
          omega
        obtain ⟨a, ha, ea⟩ := prm_onto v1 v6 hi hx
        have ew : wh v (prm (popc v) i a) = p := by rw [ea]; exact wh_of (by omega) z
        have y := hA a ha
        have y2 := cfgO_4 g v1 v6 hi ha
        rw [ew] at y y2
        rw [y, y2]
      · rw [hB p (fun a ha e => z (by rw [e]; exact (wh_in (v := v) (pf.2.1 a ha)).2.1)), cfgO_4n g v i p z, ← hc 4 p (fun w => z w.2)]
        exact (hP.2.2.2 p hp').1
set_option maxRecDepth 20000 in
set_option maxHeartbeats 4000000 in
theorem gX4_exchange_0 {G : td_G} {d : Nat} {Post : td_P} {x1 x2 : Int32} {h : td_H} (K : vp_in x1 6 ∧ (vp_in x2 6 ∧ (Post none (hu (hu h 70 (ix x1) (h 70 (ix x2))) 70 (ix x2) (h 70 (ix x1)))))) : td_J G d mX4_exchange Post 0 [(0, .ref 69), (1, .int x1), (2, .int x2)] [] h := by
  refine td_aload_n 0 dX4_exchange_0 rfl ?_
  refine gf_X4_9 rfl kp_69 dX4_exchange_1 ?_
  refine td_iload_n 1 dX4_exchange_4 rfl ?_
  obtain ⟨e5, K⟩ := K
  refine td_ialdc (j := (ix x1)) kp_70 (by decide) e5 rfl dX4_exchange_5 ?_
  refine td_istore_n (lv2 := [(0, .ref 69), (1, .int x1), (2, .int x2), (3, .int (h 70 (ix x1)))]) dX4_exchange_6 (by decide) rfl ?_
  refine td_aload_n 0 dX4_exchange_7 rfl ?_
  refine gf_X4_9 rfl kp_69 dX4_exchange_8 ?_
  refine td_iload_n 1 dX4_exchange_11 rfl ?_
  refine td_aload_n 0 dX4_exchange_12 rfl ?_
  refine gf_X4_9 rfl kp_69 dX4_exchange_13 ?_
  refine td_iload_n 2 dX4_exchange_16 rfl ?_
  obtain ⟨e17, K⟩ := K
  refine td_ialdc (j := (ix x2)) kp_70 (by decide) e17 rfl dX4_exchange_17 ?_
  refine td_iastc (j := (ix x1)) kp_70 (by decide) e5 rfl dX4_exchange_18 ?_
  refine td_aload_n 0 dX4_exchange_19 rfl ?_
  refine gf_X4_9 rfl kp_69 dX4_exchange_20 ?_
  refine td_iload_n 2 dX4_exchange_23 rfl ?_
  refine td_iload_n 3 dX4_exchange_24 rfl ?_
  refine td_iastc (j := (ix x2)) kp_70 (by decide) e17 rfl dX4_exchange_25 ?_
  exact td_return rfl dX4_exchange_26 K
def exH (h : td_H) (a b : Nat) : td_H := hu (hu h 70 a (h 70 b)) 70 b (h 70 a)
theorem c_O_exchange {G : td_G} {d : Nat} {h : td_H} (x1 x2 : Int32) (h1 : vp_in x1 6) (h2 : vp_in x2 6) : td_C G d mX4_exchange [.ref 69, .int x1, .int x2] h (eV (exH h (ix x1) (ix x2))) := td_entry rfl (Nat.le_of_ble_eq_true rfl) rfl (gX4_exchange_0 ⟨h1, h2, rfl, rfl⟩)
