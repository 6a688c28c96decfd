def courseAt (G : td_G) (L : va_W) (n a : Nat) : Prop := ∃ q1 q7 q12 q13 q14 q15 : Nat, L[n]? = some (a, .inr (0, [.ref q1, .ref q7, .ref q12, .ref q13, .ref q14, .ref q15, .int 0, .int 0, .int 0, .int 0, .int 0, .int 0, .int 0, .int 0, .int 0])) ∧ drumAt G L (n + 1) q1 ∧ fatesAt G L (n + 7) q7 ∧ L[n + 12]? = some (q12, .inl (G.2.2.1, 12, .inl (fun _ => 0))) ∧ L[n + 13]? = some (q13, .inl (G.2.2.1, 120, .inl (fun _ => 0))) ∧ L[n + 14]? = some (q14, .inl (G.2.2.1, 2, .inl (fun _ => 0))) ∧ planAt G L (n + 15) q15
theorem courseAt.mono {G : td_G} {L L2 : va_W} {n a : Nat} (h : courseAt G L n a) (e : ∀ k, n ≤ k → k < n + 20 → L2[k]? = L[k]?) : courseAt G L2 n a := by
  obtain ⟨q1, q7, q12, q13, q14, q15, z0, z1, z2, z3, z4, z5, z6⟩ := h
  exact ⟨q1, q7, q12, q13, q14, q15, (e _ (by omega) (by omega)).trans z0, z1.mono (fun k h1 h2 => e k (by omega) (by omega)), z2.mono (fun k h1 h2 => e k (by omega) (by omega)), (e _ (by omega) (by omega)).trans z3, (e _ (by omega) (by omega)).trans z4, (e _ (by omega) (by omega)).trans z5, z6.mono (fun k h1 h2 => e k (by omega) (by omega))⟩
theorem courseAt.obj {G : td_G} {L : va_W} {n a : Nat} (h : courseAt G L n a) : ∃ vs, L[n]? = some (a, .inr (0, vs)) := by
  obtain ⟨q1, q7, q12, q13, q14, q15, z0, z1, z2, z3, z4, z5, z6⟩ := h
  exact ⟨_, z0⟩
set_option maxRecDepth 20000 in
set_option maxHeartbeats 4000000 in
theorem c_ini_course {G : td_G} {L : va_W} {n a : Nat} (hn : L.length = n + 1) (e0 : L[n]? = some (a, .inr (0, [.null, .null, .null, .null, .null, .null, .int 0, .int 0, .int 0, .int 0, .int 0, .int 0, .int 0, .int 0, .int 0]))) : k_C G 2 19 390 mX0_init a L (fun L1 => L1.length = n + 20 ∧ (∀ k, k < n → L1[k]? = L[k]?) ∧ courseAt G L1 n a) := by
  refine k_entry rfl (Nat.le_of_ble_eq_true rfl) rfl ?_
  have keep : ∀ k, k < n → L[k]? = L[k]? := fun _ _ => rfl
  refine k_aload_n 0 dX0_init_0 rfl ?_
  refine k_obj (td_in 219 (by decide +kernel) rfl) kw_oi kw_oc dX0_init_1 (Nat.le_of_ble_eq_true rfl) (Nat.le_of_ble_eq_true rfl) ?_
  refine k_aload_n 0 dX0_init_4 rfl ?_
  refine k_new (n := n + 1) (fs := [.null, .null, .null, .null, .null, .int 0, .int 0, .int 0, .int 0, .int 0, .int 0, .int 0]) tyX1 hn (ci := 1) rfl td_in_1 tyX1_ok (td_in 220 (by decide +kernel) rfl) (td_in 221 (by decide +kernel) rfl) (td_in 111 (by decide +kernel) rfl) dv_X1 (Nat.le_of_ble_eq_true rfl) (Nat.le_of_ble_eq_true rfl) dX0_init_5 (fun q1 L1 hn f1 g1 => ?_)
  have e0 : L1[n]? = some (a, .inr (0, [.null, .null, .null, .null, .null, .null, .int 0, .int 0, .int 0, .int 0, .int 0, .int 0, .int 0, .int 0, .int 0])) := (f1 n (kz_0 n (by decide))).trans e0
  have keep : ∀ k, k < n → L1[k]? = L[k]? := fun k hk => (f1 k (kz_k 1 hk)).trans (keep k hk)
  have x1 : L1[n + 1]? = some (q1, .inr (1, [.null, .null, .null, .null, .null, .int 0, .int 0, .int 0, .int 0, .int 0, .int 0, .int 0])) := g1
  refine k_dup dX0_init_8 rfl ?_
  refine k_iniN (Mc := mX1_init) (d := 1) (mc := 5) (ms := 140) (host := "TurnDoor") (td_inN 117 (by decide +kernel) rfl) (td_in 223 (by decide +kernel) rfl) (td_in 111 (by decide +kernel) rfl) (td_in 224 (by decide +kernel) rfl) rfl rfl no_X1_init ⟨Nat.le_of_ble_eq_true rfl, Nat.le_of_ble_eq_true rfl⟩ ⟨Nat.le_of_ble_eq_true rfl, Nat.le_of_ble_eq_true rfl⟩ dX0_init_9 (Nat.le_of_ble_eq_true rfl) (c_ini_drum (n := n + 1) hn x1) (fun L2 hh => ?_)
  obtain ⟨h2, f2, g2⟩ := hh
  have e0 : L2[n]? = some (a, .inr (0, [.null, .null, .null, .null, .null, .null, .int 0, .int 0, .int 0, .int 0, .int 0, .int 0, .int 0, .int 0, .int 0])) := (f2 n (kz_0 n (by decide))).trans e0
  have keep : ∀ k, k < n → L2[k]? = L[k]? := fun k hk => (f2 k (kz_k 1 hk)).trans (keep k hk)
  have x1 : drumAt G L2 (n + 1) q1 := g2
  have hn : L2.length = n + 7 := h2
  refine k_putF (n := n + 7) (q0 := n) (j := 0) (ty0 := tyX0) hn e0 (ci := 0) rfl rfl td_in_0 tyX0_ok nmX0 (by decide) rfl rfl (td_in 310 (by decide +kernel) rfl) rfl rfl (Nat.le_of_ble_eq_true rfl) dX0_init_12 (fun L3 hn f3 g3 => ?_)
  have e0 : L3[n]? = some (a, .inr (0, [.ref q1, .null, .null, .null, .null, .null, .int 0, .int 0, .int 0, .int 0, .int 0, .int 0, .int 0, .int 0, .int 0])) := g3
  have x1 := x1.mono (fun k z1 z2 => f3 k (kz_mn z1 (by decide)))
  have keep : ∀ k, k < n → L3[k]? = L[k]? := fun k hk => (f3 k (kz_nk hk)).trans (keep k hk)
  refine k_aload_n 0 dX0_init_15 rfl ?_
  refine k_new (n := n + 7) (fs := [.null, .null, .null, .null, .int 0, .int 0]) tyX2 hn (ci := 2) rfl td_in_2 tyX2_ok (td_in 273 (by decide +kernel) rfl) (td_in 274 (by decide +kernel) rfl) (td_in 112 (by decide +kernel) rfl) dv_X2 (Nat.le_of_ble_eq_true rfl) (Nat.le_of_ble_eq_true rfl) dX0_init_16 (fun q7 L4 hn f4 g4 => ?_)
  have e0 : L4[n]? = some (a, .inr (0, [.ref q1, .null, .null, .null, .null, .null, .int 0, .int 0, .int 0, .int 0, .int 0, .int 0, .int 0, .int 0, .int 0])) := (f4 n (kz_0 n (by decide))).trans e0
  have x1 := x1.mono (fun k z1 z2 => f4 k (kz_m z2 (by decide)))
  have keep : ∀ k, k < n → L4[k]? = L[k]? := fun k hk => (f4 k (kz_k 7 hk)).trans (keep k hk)
  have x7 : L4[n + 7]? = some (q7, .inr (2, [.null, .null, .null, .null, .int 0, .int 0])) := g4
  refine k_dup dX0_init_19 rfl ?_
  refine k_iniN (Mc := mX2_init) (d := 1) (mc := 4) (ms := 48) (host := "TurnDoor") (td_inN 170 (by decide +kernel) rfl) (td_in 276 (by decide +kernel) rfl) (td_in 112 (by decide +kernel) rfl) (td_in 277 (by decide +kernel) rfl) rfl rfl no_X2_init ⟨Nat.le_of_ble_eq_true rfl, Nat.le_of_ble_eq_true rfl⟩ ⟨Nat.le_of_ble_eq_true rfl, Nat.le_of_ble_eq_true rfl⟩ dX0_init_20 (Nat.le_of_ble_eq_true rfl) (c_ini_fates (n := n + 7) hn x7) (fun L5 hh => ?_)
  obtain ⟨h5, f5, g5⟩ := hh
  have e0 : L5[n]? = some (a, .inr (0, [.ref q1, .null, .null, .null, .null, .null, .int 0, .int 0, .int 0, .int 0, .int 0, .int 0, .int 0, .int 0, .int 0])) := (f5 n (kz_0 n (by decide))).trans e0
  have x1 := x1.mono (fun k z1 z2 => f5 k (kz_m z2 (by decide)))
  have keep : ∀ k, k < n → L5[k]? = L[k]? := fun k hk => (f5 k (kz_k 7 hk)).trans (keep k hk)
  have x7 : fatesAt G L5 (n + 7) q7 := g5
  have hn : L5.length = n + 12 := h5
  refine k_putF (n := n + 12) (q0 := n) (j := 1) (ty0 := tyX0) hn e0 (ci := 0) rfl rfl td_in_0 tyX0_ok nmX0 (by decide) rfl rfl (td_in 314 (by decide +kernel) rfl) rfl rfl (Nat.le_of_ble_eq_true rfl) dX0_init_23 (fun L6 hn f6 g6 => ?_)
  have e0 : L6[n]? = some (a, .inr (0, [.ref q1, .ref q7, .null, .null, .null, .null, .int 0, .int 0, .int 0, .int 0, .int 0, .int 0, .int 0, .int 0, .int 0])) := g6
  have x1 := x1.mono (fun k z1 z2 => f6 k (kz_mn z1 (by decide)))
  have x7 := x7.mono (fun k z1 z2 => f6 k (kz_mn z1 (by decide)))
  have keep : ∀ k, k < n → L6[k]? = L[k]? := fun k hk => (f6 k (kz_nk hk)).trans (keep k hk)
  refine k_aload_n 0 dX0_init_26 rfl ?_
  refine k_bipush (v := 12) dX0_init_27 (by decide) ?_
  refine k_newa (n := n + 12) (N := 12) hn kw_ai (by decide) (by decide) (by decide) (Nat.le_of_ble_eq_true rfl) (Nat.le_of_ble_eq_true rfl) dX0_init_29 (fun q12 L7 hn f7 g7 => ?_)
  have e0 : L7[n]? = some (a, .inr (0, [.ref q1, .ref q7, .null, .null, .null, .null, .int 0, .int 0, .int 0, .int 0, .int 0, .int 0, .int 0, .int 0, .int 0])) := (f7 n (kz_0 n (by decide))).trans e0
  have x1 := x1.mono (fun k z1 z2 => f7 k (kz_m z2 (by decide)))
  have x7 := x7.mono (fun k z1 z2 => f7 k (kz_m z2 (by decide)))
  have keep : ∀ k, k < n → L7[k]? = L[k]? := fun k hk => (f7 k (kz_k 12 hk)).trans (keep k hk)
  have x12 : L7[n + 12]? = some (q12, .inl (G.2.2.1, 12, .inl (fun _ => 0))) := g7
  refine k_putF (n := n + 13) (q0 := n) (j := 2) (ty0 := tyX0) hn e0 (ci := 0) rfl rfl td_in_0 tyX0_ok nmX0 (by decide) rfl rfl (td_in 317 (by decide +kernel) rfl) rfl rfl (Nat.le_of_ble_eq_true rfl) dX0_init_31 (fun L8 hn f8 g8 => ?_)
  have e0 : L8[n]? = some (a, .inr (0, [.ref q1, .ref q7, .ref q12, .null, .null, .null, .int 0, .int 0, .int 0, .int 0, .int 0, .int 0, .int 0, .int 0, .int 0])) := g8
  have x1 := x1.mono (fun k z1 z2 => f8 k (kz_mn z1 (by decide)))
  have x7 := x7.mono (fun k z1 z2 => f8 k (kz_mn z1 (by decide)))
  have x12 := (f8 _ (kz_ne n (by decide))).trans x12
  have keep : ∀ k, k < n → L8[k]? = L[k]? := fun k hk => (f8 k (kz_nk hk)).trans (keep k hk)
  refine k_aload_n 0 dX0_init_34 rfl ?_
  refine k_bipush (v := 120) dX0_init_35 (by decide) ?_
  refine k_newa (n := n + 13) (N := 120) hn kw_ai (by decide) (by decide) (by decide) (Nat.le_of_ble_eq_true rfl) (Nat.le_of_ble_eq_true rfl) dX0_init_37 (fun q13 L9 hn f9 g9 => ?_)
  have e0 : L9[n]? = some (a, .inr (0, [.ref q1, .ref q7, .ref q12, .null, .null, .null, .int 0, .int 0, .int 0, .int 0, .int 0, .int 0, .int 0, .int 0, .int 0])) := (f9 n (kz_0 n (by decide))).trans e0
  have x1 := x1.mono (fun k z1 z2 => f9 k (kz_m z2 (by decide)))
  have x7 := x7.mono (fun k z1 z2 => f9 k (kz_m z2 (by decide)))
  have x12 := (f9 _ (kz_a n (by decide))).trans x12
  have keep : ∀ k, k < n → L9[k]? = L[k]? := fun k hk => (f9 k (kz_k 13 hk)).trans (keep k hk)
  have x13 : L9[n + 13]? = some (q13, .inl (G.2.2.1, 120, .inl (fun _ => 0))) := g9
  refine k_putF (n := n + 14) (q0 := n) (j := 3) (ty0 := tyX0) hn e0 (ci := 0) rfl rfl td_in_0 tyX0_ok nmX0 (by decide) rfl rfl (td_in 318 (by decide +kernel) rfl) rfl rfl (Nat.le_of_ble_eq_true rfl) dX0_init_39 (fun L10 hn f10 g10 => ?_)
  have e0 : L10[n]? = some (a, .inr (0, [.ref q1, .ref q7, .ref q12, .ref q13, .null, .null, .int 0, .int 0, .int 0, .int 0, .int 0, .int 0, .int 0, .int 0, .int 0])) := g10
  have x1 := x1.mono (fun k z1 z2 => f10 k (kz_mn z1 (by decide)))
  have x7 := x7.mono (fun k z1 z2 => f10 k (kz_mn z1 (by decide)))
  have x12 := (f10 _ (kz_ne n (by decide))).trans x12
  have x13 := (f10 _ (kz_ne n (by decide))).trans x13
  have keep : ∀ k, k < n → L10[k]? = L[k]? := fun k hk => (f10 k (kz_nk hk)).trans (keep k hk)
  refine k_aload_n 0 dX0_init_42 rfl ?_
  refine k_iconst (v := 2) dX0_init_43 (by decide) ?_
  refine k_newa (n := n + 14) (N := 2) hn kw_ai (by decide) (by decide) (by decide) (Nat.le_of_ble_eq_true rfl) (Nat.le_of_ble_eq_true rfl) dX0_init_44 (fun q14 L11 hn f11 g11 => ?_)
  have e0 : L11[n]? = some (a, .inr (0, [.ref q1, .ref q7, .ref q12, .ref q13, .null, .null, .int 0, .int 0, .int 0, .int 0, .int 0, .int 0, .int 0, .int 0, .int 0])) := (f11 n (kz_0 n (by decide))).trans e0
  have x1 := x1.mono (fun k z1 z2 => f11 k (kz_m z2 (by decide)))
  have x7 := x7.mono (fun k z1 z2 => f11 k (kz_m z2 (by decide)))
  have x12 := (f11 _ (kz_a n (by decide))).trans x12
  have x13 := (f11 _ (kz_a n (by decide))).trans x13
  have keep : ∀ k, k < n → L11[k]? = L[k]? := fun k hk => (f11 k (kz_k 14 hk)).trans (keep k hk)
  have x14 : L11[n + 14]? = some (q14, .inl (G.2.2.1, 2, .inl (fun _ => 0))) := g11
  refine k_putF (n := n + 15) (q0 := n) (j := 4) (ty0 := tyX0) hn e0 (ci := 0) rfl rfl td_in_0 tyX0_ok nmX0 (by decide) rfl rfl (td_in 319 (by decide +kernel) rfl) rfl rfl (Nat.le_of_ble_eq_true rfl) dX0_init_46 (fun L12 hn f12 g12 => ?_)
  have e0 : L12[n]? = some (a, .inr (0, [.ref q1, .ref q7, .ref q12, .ref q13, .ref q14, .null, .int 0, .int 0, .int 0, .int 0, .int 0, .int 0, .int 0, .int 0, .int 0])) := g12
  have x1 := x1.mono (fun k z1 z2 => f12 k (kz_mn z1 (by decide)))
  have x7 := x7.mono (fun k z1 z2 => f12 k (kz_mn z1 (by decide)))
  have x12 := (f12 _ (kz_ne n (by decide))).trans x12
  have x13 := (f12 _ (kz_ne n (by decide))).trans x13
  have x14 := (f12 _ (kz_ne n (by decide))).trans x14
  have keep : ∀ k, k < n → L12[k]? = L[k]? := fun k hk => (f12 k (kz_nk hk)).trans (keep k hk)
  refine k_aload_n 0 dX0_init_49 rfl ?_
  refine k_new (n := n + 15) (fs := [.null, .null, .null, .null, .int 0]) tyX5 hn (ci := 5) rfl td_in_5 tyX5_ok (td_in 308 (by decide +kernel) rfl) (td_in 135 (by decide +kernel) rfl) (td_in 107 (by decide +kernel) rfl) dv_X5 (Nat.le_of_ble_eq_true rfl) (Nat.le_of_ble_eq_true rfl) dX0_init_50 (fun q15 L13 hn f13 g13 => ?_)
  have e0 : L13[n]? = some (a, .inr (0, [.ref q1, .ref q7, .ref q12, .ref q13, .ref q14, .null, .int 0, .int 0, .int 0, .int 0, .int 0, .int 0, .int 0, .int 0, .int 0])) := (f13 n (kz_0 n (by decide))).trans e0
  have x1 := x1.mono (fun k z1 z2 => f13 k (kz_m z2 (by decide)))
  have x7 := x7.mono (fun k z1 z2 => f13 k (kz_m z2 (by decide)))
  have x12 := (f13 _ (kz_a n (by decide))).trans x12
  have x13 := (f13 _ (kz_a n (by decide))).trans x13
  have x14 := (f13 _ (kz_a n (by decide))).trans x14
  have keep : ∀ k, k < n → L13[k]? = L[k]? := fun k hk => (f13 k (kz_k 15 hk)).trans (keep k hk)
  have x15 : L13[n + 15]? = some (q15, .inr (5, [.null, .null, .null, .null, .int 0])) := g13
  refine k_dup dX0_init_53 rfl ?_
  refine k_iniN (Mc := mX5_init) (d := 1) (mc := 4) (ms := 45) (host := "TurnDoor") (td_inN 204 (by decide +kernel) rfl) (td_in 137 (by decide +kernel) rfl) (td_in 107 (by decide +kernel) rfl) (td_in 138 (by decide +kernel) rfl) rfl rfl no_X5_init ⟨Nat.le_of_ble_eq_true rfl, Nat.le_of_ble_eq_true rfl⟩ ⟨Nat.le_of_ble_eq_true rfl, Nat.le_of_ble_eq_true rfl⟩ dX0_init_54 (Nat.le_of_ble_eq_true rfl) (c_ini_plan (n := n + 15) hn x15) (fun L14 hh => ?_)
  obtain ⟨h14, f14, g14⟩ := hh
  have e0 : L14[n]? = some (a, .inr (0, [.ref q1, .ref q7, .ref q12, .ref q13, .ref q14, .null, .int 0, .int 0, .int 0, .int 0, .int 0, .int 0, .int 0, .int 0, .int 0])) := (f14 n (kz_0 n (by decide))).trans e0
  have x1 := x1.mono (fun k z1 z2 => f14 k (kz_m z2 (by decide)))
  have x7 := x7.mono (fun k z1 z2 => f14 k (kz_m z2 (by decide)))
  have x12 := (f14 _ (kz_a n (by decide))).trans x12
  have x13 := (f14 _ (kz_a n (by decide))).trans x13
  have x14 := (f14 _ (kz_a n (by decide))).trans x14
  have keep : ∀ k, k < n → L14[k]? = L[k]? := fun k hk => (f14 k (kz_k 15 hk)).trans (keep k hk)
  have x15 : planAt G L14 (n + 15) q15 := g14
  have hn : L14.length = n + 20 := h14
  refine k_put (n := n + 20) (q0 := n) (j := 5) (ty0 := tyX0) hn e0 (ci := 0) rfl td_in_0 tyX0_ok nmX0 (by decide) rfl rfl (td_in 320 (by decide +kernel) rfl) rfl rfl (Nat.le_of_ble_eq_true rfl) dX0_init_57 (fun L15 hn f15 g15 => ?_)
  have e0 : L15[n]? = some (a, .inr (0, [.ref q1, .ref q7, .ref q12, .ref q13, .ref q14, .ref q15, .int 0, .int 0, .int 0, .int 0, .int 0, .int 0, .int 0, .int 0, .int 0])) := g15
  have x1 := x1.mono (fun k z1 z2 => f15 k (kz_mn z1 (by decide)))
  have x7 := x7.mono (fun k z1 z2 => f15 k (kz_mn z1 (by decide)))
  have x12 := (f15 _ (kz_ne n (by decide))).trans x12
  have x13 := (f15 _ (kz_ne n (by decide))).trans x13
  have x14 := (f15 _ (kz_ne n (by decide))).trans x14
  have x15 := x15.mono (fun k z1 z2 => f15 k (kz_mn z1 (by decide)))
  have keep : ∀ k, k < n → L15[k]? = L[k]? := fun k hk => (f15 k (kz_nk hk)).trans (keep k hk)
  exact k_return rfl (Nat.le_of_ble_eq_true rfl) (Nat.le_of_ble_eq_true rfl) dX0_init_60 ⟨hn, keep, ⟨q1, q7, q12, q13, q14, q15, e0, x1, x7, x12, x13, x14, x15⟩⟩
def trialsAt (G : td_G) (L : va_W) (n a : Nat) : Prop := ∃ q1 q6 q26 q30 q31 q32 q33 : Nat, L[n]? = some (a, .inr (8, [.ref q1, .ref q6, .ref q26, .ref q30, .ref q31, .ref q32, .ref q33, .int 0, .int 0, .int 0, .int 0])) ∧ planAt G L (n + 1) q1 ∧ courseAt G L (n + 6) q6 ∧ orderAt G L (n + 26) q26 ∧ L[n + 30]? = some (q30, .inl (G.2.2.1, 21, .inl (fun _ => 0))) ∧ L[n + 31]? = some (q31, .inl (G.2.2.1, 18, .inl (fun _ => 0))) ∧ L[n + 32]? = some (q32, .inl (G.2.2.1, 18, .inl (fun _ => 0))) ∧ L[n + 33]? = some (q33, .inl (G.2.2.1, 2268, .inl (fun _ => 0)))
theorem trialsAt.mono {G : td_G} {L L2 : va_W} {n a : Nat} (h : trialsAt G L n a) (e : ∀ k, n ≤ k → k < n + 34 → L2[k]? = L[k]?) : trialsAt G L2 n a := by
  obtain ⟨q1, q6, q26, q30, q31, q32, q33, z0, z1, z2, z3, z4, z5, z6, z7⟩ := h
  exact ⟨q1, q6, q26, q30, q31, q32, q33, (e _ (by omega) (by omega)).trans z0, z1.mono (fun k h1 h2 => e k (by omega) (by omega)), z2.mono (fun k h1 h2 => e k (by omega) (by omega)), z3.mono (fun k h1 h2 => e k (by omega) (by omega)), (e _ (by omega) (by omega)).trans z4, (e _ (by omega) (by omega)).trans z5, (e _ (by omega) (by omega)).trans z6, (e _ (by omega) (by omega)).trans z7⟩
theorem trialsAt.obj {G : td_G} {L : va_W} {n a : Nat} (h : trialsAt G L n a) : ∃ vs, L[n]? = some (a, .inr (8, vs)) := by
  obtain ⟨q1, q6, q26, q30, q31, q32, q33, z0, z1, z2, z3, z4, z5, z6, z7⟩ := h
  exact ⟨_, z0⟩
set_option maxRecDepth 20000 in
set_option maxHeartbeats 4000000 in
theorem c_ini_trials {G : td_G} {L : va_W} {n a : Nat} (hn : L.length = n + 1) (e0 : L[n]? = some (a, .inr (8, [.null, .null, .null, .null, .null, .null, .null, .int 0, .int 0, .int 0, .int 0]))) : k_C G 3 33 2805 mX8_init a L (fun L1 => L1.length = n + 34 ∧ (∀ k, k < n → L1[k]? = L[k]?) ∧ trialsAt G L1 n a) := by
  refine k_entry rfl (Nat.le_of_ble_eq_true rfl) rfl ?_
  have keep : ∀ k, k < n → L[k]? = L[k]? := fun _ _ => rfl
  refine k_aload_n 0 dX8_init_0 rfl ?_
  refine k_obj (td_in 397 (by decide +kernel) rfl) kw_oi kw_oc dX8_init_1 (Nat.le_of_ble_eq_true rfl) (Nat.le_of_ble_eq_true rfl) ?_
  refine k_aload_n 0 dX8_init_4 rfl ?_
  refine k_new (n := n + 1) (fs := [.null, .null, .null, .null, .int 0]) tyX5 hn (ci := 5) rfl td_in_5 tyX5_ok (td_in 398 (by decide +kernel) rfl) (td_in 135 (by decide +kernel) rfl) (td_in 107 (by decide +kernel) rfl) dv_X5 (Nat.le_of_ble_eq_true rfl) (Nat.le_of_ble_eq_true rfl) dX8_init_5 (fun q1 L1 hn f1 g1 => ?_)
  have e0 : L1[n]? = some (a, .inr (8, [.null, .null, .null, .null, .null, .null, .null, .int 0, .int 0, .int 0, .int 0])) := (f1 n (kz_0 n (by decide))).trans e0
  have keep : ∀ k, k < n → L1[k]? = L[k]? := fun k hk => (f1 k (kz_k 1 hk)).trans (keep k hk)
  have x1 : L1[n + 1]? = some (q1, .inr (5, [.null, .null, .null, .null, .int 0])) := g1
  refine k_dup dX8_init_8 rfl ?_
  refine k_iniN (Mc := mX5_init) (d := 1) (mc := 4) (ms := 45) (host := "TurnDoor") (td_inN 294 (by decide +kernel) rfl) (td_in 137 (by decide +kernel) rfl) (td_in 107 (by decide +kernel) rfl) (td_in 138 (by decide +kernel) rfl) rfl rfl no_X5_init ⟨Nat.le_of_ble_eq_true rfl, Nat.le_of_ble_eq_true rfl⟩ ⟨Nat.le_of_ble_eq_true rfl, Nat.le_of_ble_eq_true rfl⟩ dX8_init_9 (Nat.le_of_ble_eq_true rfl) (c_ini_plan (n := n + 1) hn x1) (fun L2 hh => ?_)
  obtain ⟨h2, f2, g2⟩ := hh
  have e0 : L2[n]? = some (a, .inr (8, [.null, .null, .null, .null, .null, .null, .null, .int 0, .int 0, .int 0, .int 0])) := (f2 n (kz_0 n (by decide))).trans e0
  have keep : ∀ k, k < n → L2[k]? = L[k]? := fun k hk => (f2 k (kz_k 1 hk)).trans (keep k hk)
  have x1 : planAt G L2 (n + 1) q1 := g2
  have hn : L2.length = n + 6 := h2
  refine k_putF (n := n + 6) (q0 := n) (j := 0) (ty0 := tyX8) hn e0 (ci := 8) rfl rfl td_in_8 tyX8_ok nmX8 (by decide) rfl rfl (td_in 435 (by decide +kernel) rfl) rfl rfl (Nat.le_of_ble_eq_true rfl) dX8_init_12 (fun L3 hn f3 g3 => ?_)
  have e0 : L3[n]? = some (a, .inr (8, [.ref q1, .null, .null, .null, .null, .null, .null, .int 0, .int 0, .int 0, .int 0])) := g3
  have x1 := x1.mono (fun k z1 z2 => f3 k (kz_mn z1 (by decide)))
  have keep : ∀ k, k < n → L3[k]? = L[k]? := fun k hk => (f3 k (kz_nk hk)).trans (keep k hk)
  refine k_aload_n 0 dX8_init_15 rfl ?_
  refine k_new (n := n + 6) (fs := [.null, .null, .null, .null, .null, .null, .int 0, .int 0, .int 0, .int 0, .int 0, .int 0, .int 0, .int 0, .int 0]) tyX0 hn (ci := 0) rfl td_in_0 tyX0_ok (td_in 400 (by decide +kernel) rfl) (td_in 215 (by decide +kernel) rfl) (td_in 110 (by decide +kernel) rfl) dv_X0 (Nat.le_of_ble_eq_true rfl) (Nat.le_of_ble_eq_true rfl) dX8_init_16 (fun q6 L4 hn f4 g4 => ?_)
  have e0 : L4[n]? = some (a, .inr (8, [.ref q1, .null, .null, .null, .null, .null, .null, .int 0, .int 0, .int 0, .int 0])) := (f4 n (kz_0 n (by decide))).trans e0
  have x1 := x1.mono (fun k z1 z2 => f4 k (kz_m z2 (by decide)))
  have keep : ∀ k, k < n → L4[k]? = L[k]? := fun k hk => (f4 k (kz_k 6 hk)).trans (keep k hk)
  have x6 : L4[n + 6]? = some (q6, .inr (0, [.null, .null, .null, .null, .null, .null, .int 0, .int 0, .int 0, .int 0, .int 0, .int 0, .int 0, .int 0, .int 0])) := g4
  refine k_dup dX8_init_19 rfl ?_
  refine k_iniN (Mc := mX0_init) (d := 2) (mc := 19) (ms := 390) (host := "TurnDoor") (td_inN 296 (by decide +kernel) rfl) (td_in 217 (by decide +kernel) rfl) (td_in 110 (by decide +kernel) rfl) (td_in 218 (by decide +kernel) rfl) rfl rfl no_X0_init ⟨Nat.le_of_ble_eq_true rfl, Nat.le_of_ble_eq_true rfl⟩ ⟨Nat.le_of_ble_eq_true rfl, Nat.le_of_ble_eq_true rfl⟩ dX8_init_20 (Nat.le_of_ble_eq_true rfl) (c_ini_course (n := n + 6) hn x6) (fun L5 hh => ?_)
  obtain ⟨h5, f5, g5⟩ := hh
  have e0 : L5[n]? = some (a, .inr (8, [.ref q1, .null, .null, .null, .null, .null, .null, .int 0, .int 0, .int 0, .int 0])) := (f5 n (kz_0 n (by decide))).trans e0
  have x1 := x1.mono (fun k z1 z2 => f5 k (kz_m z2 (by decide)))
  have keep : ∀ k, k < n → L5[k]? = L[k]? := fun k hk => (f5 k (kz_k 6 hk)).trans (keep k hk)
  have x6 : courseAt G L5 (n + 6) q6 := g5
  have hn : L5.length = n + 26 := h5
  refine k_putF (n := n + 26) (q0 := n) (j := 1) (ty0 := tyX8) hn e0 (ci := 8) rfl rfl td_in_8 tyX8_ok nmX8 (by decide) rfl rfl (td_in 436 (by decide +kernel) rfl) rfl rfl (Nat.le_of_ble_eq_true rfl) dX8_init_23 (fun L6 hn f6 g6 => ?_)
  have e0 : L6[n]? = some (a, .inr (8, [.ref q1, .ref q6, .null, .null, .null, .null, .null, .int 0, .int 0, .int 0, .int 0])) := g6
  have x1 := x1.mono (fun k z1 z2 => f6 k (kz_mn z1 (by decide)))
  have x6 := x6.mono (fun k z1 z2 => f6 k (kz_mn z1 (by decide)))
  have keep : ∀ k, k < n → L6[k]? = L[k]? := fun k hk => (f6 k (kz_nk hk)).trans (keep k hk)
  refine k_aload_n 0 dX8_init_26 rfl ?_
  refine k_new (n := n + 26) (fs := [.null, .null, .null, .int 0, .int 0, .int 0, .int 0]) tyX4 hn (ci := 4) rfl td_in_4 tyX4_ok (td_in 402 (by decide +kernel) rfl) (td_in 403 (by decide +kernel) rfl) (td_in 115 (by decide +kernel) rfl) dv_X4 (Nat.le_of_ble_eq_true rfl) (Nat.le_of_ble_eq_true rfl) dX8_init_27 (fun q26 L7 hn f7 g7 => ?_)
  have e0 : L7[n]? = some (a, .inr (8, [.ref q1, .ref q6, .null, .null, .null, .null, .null, .int 0, .int 0, .int 0, .int 0])) := (f7 n (kz_0 n (by decide))).trans e0
  have x1 := x1.mono (fun k z1 z2 => f7 k (kz_m z2 (by decide)))
  have x6 := x6.mono (fun k z1 z2 => f7 k (kz_m z2 (by decide)))
  have keep : ∀ k, k < n → L7[k]? = L[k]? := fun k hk => (f7 k (kz_k 26 hk)).trans (keep k hk)
  have x26 : L7[n + 26]? = some (q26, .inr (4, [.null, .null, .null, .int 0, .int 0, .int 0, .int 0])) := g7
  refine k_dup dX8_init_30 rfl ?_
  refine k_iniN (Mc := mX4_init) (d := 1) (mc := 3) (ms := 18) (host := "TurnDoor") (td_inN 299 (by decide +kernel) rfl) (td_in 405 (by decide +kernel) rfl) (td_in 115 (by decide +kernel) rfl) (td_in 406 (by decide +kernel) rfl) rfl rfl no_X4_init ⟨Nat.le_of_ble_eq_true rfl, Nat.le_of_ble_eq_true rfl⟩ ⟨Nat.le_of_ble_eq_true rfl, Nat.le_of_ble_eq_true rfl⟩ dX8_init_31 (Nat.le_of_ble_eq_true rfl) (c_ini_order (n := n + 26) hn x26) (fun L8 hh => ?_)
  obtain ⟨h8, f8, g8⟩ := hh
  have e0 : L8[n]? = some (a, .inr (8, [.ref q1, .ref q6, .null, .null, .null, .null, .null, .int 0, .int 0, .int 0, .int 0])) := (f8 n (kz_0 n (by decide))).trans e0
  have x1 := x1.mono (fun k z1 z2 => f8 k (kz_m z2 (by decide)))
  have x6 := x6.mono (fun k z1 z2 => f8 k (kz_m z2 (by decide)))
  have keep : ∀ k, k < n → L8[k]? = L[k]? := fun k hk => (f8 k (kz_k 26 hk)).trans (keep k hk)
  have x26 : orderAt G L8 (n + 26) q26 := g8
  have hn : L8.length = n + 30 := h8
  refine k_putF (n := n + 30) (q0 := n) (j := 2) (ty0 := tyX8) hn e0 (ci := 8) rfl rfl td_in_8 tyX8_ok nmX8 (by decide) rfl rfl (td_in 437 (by decide +kernel) rfl) rfl rfl (Nat.le_of_ble_eq_true rfl) dX8_init_34 (fun L9 hn f9 g9 => ?_)
  have e0 : L9[n]? = some (a, .inr (8, [.ref q1, .ref q6, .ref q26, .null, .null, .null, .null, .int 0, .int 0, .int 0, .int 0])) := g9
  have x1 := x1.mono (fun k z1 z2 => f9 k (kz_mn z1 (by decide)))
  have x6 := x6.mono (fun k z1 z2 => f9 k (kz_mn z1 (by decide)))
  have x26 := x26.mono (fun k z1 z2 => f9 k (kz_mn z1 (by decide)))
  have keep : ∀ k, k < n → L9[k]? = L[k]? := fun k hk => (f9 k (kz_nk hk)).trans (keep k hk)
  refine k_aload_n 0 dX8_init_37 rfl ?_
  refine k_bipush (v := 21) dX8_init_38 (by decide) ?_
  refine k_newa (n := n + 30) (N := 21) hn kw_ai (by decide) (by decide) (by decide) (Nat.le_of_ble_eq_true rfl) (Nat.le_of_ble_eq_true rfl) dX8_init_40 (fun q30 L10 hn f10 g10 => ?_)
  have e0 : L10[n]? = some (a, .inr (8, [.ref q1, .ref q6, .ref q26, .null, .null, .null, .null, .int 0, .int 0, .int 0, .int 0])) := (f10 n (kz_0 n (by decide))).trans e0
  have x1 := x1.mono (fun k z1 z2 => f10 k (kz_m z2 (by decide)))
  have x6 := x6.mono (fun k z1 z2 => f10 k (kz_m z2 (by decide)))
  have x26 := x26.mono (fun k z1 z2 => f10 k (kz_m z2 (by decide)))
  have keep : ∀ k, k < n → L10[k]? = L[k]? := fun k hk => (f10 k (kz_k 30 hk)).trans (keep k hk)
  have x30 : L10[n + 30]? = some (q30, .inl (G.2.2.1, 21, .inl (fun _ => 0))) := g10
  refine k_putF (n := n + 31) (q0 := n) (j := 3) (ty0 := tyX8) hn e0 (ci := 8) rfl rfl td_in_8 tyX8_ok nmX8 (by decide) rfl rfl (td_in 439 (by decide +kernel) rfl) rfl rfl (Nat.le_of_ble_eq_true rfl) dX8_init_42 (fun L11 hn f11 g11 => ?_)
  have e0 : L11[n]? = some (a, .inr (8, [.ref q1, .ref q6, .ref q26, .ref q30, .null, .null, .null, .int 0, .int 0, .int 0, .int 0])) := g11
  have x1 := x1.mono (fun k z1 z2 => f11 k (kz_mn z1 (by decide)))
  have x6 := x6.mono (fun k z1 z2 => f11 k (kz_mn z1 (by decide)))
  have x26 := x26.mono (fun k z1 z2 => f11 k (kz_mn z1 (by decide)))
  have x30 := (f11 _ (kz_ne n (by decide))).trans x30
  have keep : ∀ k, k < n → L11[k]? = L[k]? := fun k hk => (f11 k (kz_nk hk)).trans (keep k hk)
  refine k_aload_n 0 dX8_init_45 rfl ?_
  refine k_bipush (v := 18) dX8_init_46 (by decide) ?_
  refine k_newa (n := n + 31) (N := 18) hn kw_ai (by decide) (by decide) (by decide) (Nat.le_of_ble_eq_true rfl) (Nat.le_of_ble_eq_true rfl) dX8_init_48 (fun q31 L12 hn f12 g12 => ?_)
  have e0 : L12[n]? = some (a, .inr (8, [.ref q1, .ref q6, .ref q26, .ref q30, .null, .null, .null, .int 0, .int 0, .int 0, .int 0])) := (f12 n (kz_0 n (by decide))).trans e0
  have x1 := x1.mono (fun k z1 z2 => f12 k (kz_m z2 (by decide)))
  have x6 := x6.mono (fun k z1 z2 => f12 k (kz_m z2 (by decide)))
  have x26 := x26.mono (fun k z1 z2 => f12 k (kz_m z2 (by decide)))
  have x30 := (f12 _ (kz_a n (by decide))).trans x30
  have keep : ∀ k, k < n → L12[k]? = L[k]? := fun k hk => (f12 k (kz_k 31 hk)).trans (keep k hk)
  have x31 : L12[n + 31]? = some (q31, .inl (G.2.2.1, 18, .inl (fun _ => 0))) := g12
  refine k_putF (n := n + 32) (q0 := n) (j := 4) (ty0 := tyX8) hn e0 (ci := 8) rfl rfl td_in_8 tyX8_ok nmX8 (by decide) rfl rfl (td_in 440 (by decide +kernel) rfl) rfl rfl (Nat.le_of_ble_eq_true rfl) dX8_init_50 (fun L13 hn f13 g13 => ?_)
  have e0 : L13[n]? = some (a, .inr (8, [.ref q1, .ref q6, .ref q26, .ref q30, .ref q31, .null, .null, .int 0, .int 0, .int 0, .int 0])) := g13
  have x1 := x1.mono (fun k z1 z2 => f13 k (kz_mn z1 (by decide)))
  have x6 := x6.mono (fun k z1 z2 => f13 k (kz_mn z1 (by decide)))
  have x26 := x26.mono (fun k z1 z2 => f13 k (kz_mn z1 (by decide)))
  have x30 := (f13 _ (kz_ne n (by decide))).trans x30
  have x31 := (f13 _ (kz_ne n (by decide))).trans x31
  have keep : ∀ k, k < n → L13[k]? = L[k]? := fun k hk => (f13 k (kz_nk hk)).trans (keep k hk)
  refine k_aload_n 0 dX8_init_53 rfl ?_
  refine k_bipush (v := 18) dX8_init_54 (by decide) ?_
  refine k_newa (n := n + 32) (N := 18) hn kw_ai (by decide) (by decide) (by decide) (Nat.le_of_ble_eq_true rfl) (Nat.le_of_ble_eq_true rfl) dX8_init_56 (fun q32 L14 hn f14 g14 => ?_)
  have e0 : L14[n]? = some (a, .inr (8, [.ref q1, .ref q6, .ref q26, .ref q30, .ref q31, .null, .null, .int 0, .int 0, .int 0, .int 0])) := (f14 n (kz_0 n (by decide))).trans e0
  have x1 := x1.mono (fun k z1 z2 => f14 k (kz_m z2 (by decide)))
  have x6 := x6.mono (fun k z1 z2 => f14 k (kz_m z2 (by decide)))
  have x26 := x26.mono (fun k z1 z2 => f14 k (kz_m z2 (by decide)))
  have x30 := (f14 _ (kz_a n (by decide))).trans x30
  have x31 := (f14 _ (kz_a n (by decide))).trans x31
  have keep : ∀ k, k < n → L14[k]? = L[k]? := fun k hk => (f14 k (kz_k 32 hk)).trans (keep k hk)
  have x32 : L14[n + 32]? = some (q32, .inl (G.2.2.1, 18, .inl (fun _ => 0))) := g14
  refine k_putF (n := n + 33) (q0 := n) (j := 5) (ty0 := tyX8) hn e0 (ci := 8) rfl rfl td_in_8 tyX8_ok nmX8 (by decide) rfl rfl (td_in 441 (by decide +kernel) rfl) rfl rfl (Nat.le_of_ble_eq_true rfl) dX8_init_58 (fun L15 hn f15 g15 => ?_)
  have e0 : L15[n]? = some (a, .inr (8, [.ref q1, .ref q6, .ref q26, .ref q30, .ref q31, .ref q32, .null, .int 0, .int 0, .int 0, .int 0])) := g15
  have x1 := x1.mono (fun k z1 z2 => f15 k (kz_mn z1 (by decide)))
  have x6 := x6.mono (fun k z1 z2 => f15 k (kz_mn z1 (by decide)))
  have x26 := x26.mono (fun k z1 z2 => f15 k (kz_mn z1 (by decide)))
  have x30 := (f15 _ (kz_ne n (by decide))).trans x30
  have x31 := (f15 _ (kz_ne n (by decide))).trans x31
  have x32 := (f15 _ (kz_ne n (by decide))).trans x32
  have keep : ∀ k, k < n → L15[k]? = L[k]? := fun k hk => (f15 k (kz_nk hk)).trans (keep k hk)
  refine k_aload_n 0 dX8_init_61 rfl ?_
  refine k_sipush (v := 2268) dX8_init_62 (by decide) ?_
  refine k_newa (n := n + 33) (N := 2268) hn kw_ai (by decide) (by decide) (by decide) (Nat.le_of_ble_eq_true rfl) (Nat.le_of_ble_eq_true rfl) dX8_init_65 (fun q33 L16 hn f16 g16 => ?_)
  have e0 : L16[n]? = some (a, .inr (8, [.ref q1, .ref q6, .ref q26, .ref q30, .ref q31, .ref q32, .null, .int 0, .int 0, .int 0, .int 0])) := (f16 n (kz_0 n (by decide))).trans e0
  have x1 := x1.mono (fun k z1 z2 => f16 k (kz_m z2 (by decide)))
  have x6 := x6.mono (fun k z1 z2 => f16 k (kz_m z2 (by decide)))
  have x26 := x26.mono (fun k z1 z2 => f16 k (kz_m z2 (by decide)))
  have x30 := (f16 _ (kz_a n (by decide))).trans x30
  have x31 := (f16 _ (kz_a n (by decide))).trans x31
  have x32 := (f16 _ (kz_a n (by decide))).trans x32
  have keep : ∀ k, k < n → L16[k]? = L[k]? := fun k hk => (f16 k (kz_k 33 hk)).trans (keep k hk)
  have x33 : L16[n + 33]? = some (q33, .inl (G.2.2.1, 2268, .inl (fun _ => 0))) := g16
  refine k_putF (n := n + 34) (q0 := n) (j := 6) (ty0 := tyX8) hn e0 (ci := 8) rfl rfl td_in_8 tyX8_ok nmX8 (by decide) rfl rfl (td_in 442 (by decide +kernel) rfl) rfl rfl (Nat.le_of_ble_eq_true rfl) dX8_init_67 (fun L17 hn f17 g17 => ?_)
  have e0 : L17[n]? = some (a, .inr (8, [.ref q1, .ref q6, .ref q26, .ref q30, .ref q31, .ref q32, .ref q33, .int 0, .int 0, .int 0, .int 0])) := g17
  have x1 := x1.mono (fun k z1 z2 => f17 k (kz_mn z1 (by decide)))
  have x6 := x6.mono (fun k z1 z2 => f17 k (kz_mn z1 (by decide)))
  have x26 := x26.mono (fun k z1 z2 => f17 k (kz_mn z1 (by decide)))
  have x30 := (f17 _ (kz_ne n (by decide))).trans x30
  have x31 := (f17 _ (kz_ne n (by decide))).trans x31
  have x32 := (f17 _ (kz_ne n (by decide))).trans x32
  have x33 := (f17 _ (kz_ne n (by decide))).trans x33
  have keep : ∀ k, k < n → L17[k]? = L[k]? := fun k hk => (f17 k (kz_nk hk)).trans (keep k hk)
  exact k_return rfl (Nat.le_of_ble_eq_true rfl) (Nat.le_of_ble_eq_true rfl) dX8_init_70 ⟨hn, keep, ⟨q1, q6, q26, q30, q31, q32, q33, e0, x1, x6, x26, x30, x31, x32, x33⟩⟩
