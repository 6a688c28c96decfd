def doorAt (G : td_G) (L : va_W) (n a : Nat) : Prop := ∃ q1 q6 q11 q16 q17 q37 q43 q77 q79 q81 q83 : Nat, L[n]? = some (a, .inr (9, [.ref q1, .ref q6, .ref q11, .ref q16, .ref q17, .ref q37, .ref q43, .int 0, .int 0])) ∧ planAt G L (n + 1) q1 ∧ planAt G L (n + 6) q6 ∧ tapeAt G L (n + 11) q11 ∧ L[n + 16]? = some (q16, .inl (G.2.2.2.1, 4, .inr (.inr (.inr (.inr (va_up (va_up (va_up (va_up (fun _ => none) 0 (some q77)) 1 (some q79)) 2 (some q81)) 3 (some q83))))))) ∧ courseAt G L (n + 17) q17 ∧ logAt G L (n + 37) q37 ∧ trialsAt G L (n + 43) q43 ∧ sheetAt G L (n + 77) q77 ∧ sheetAt G L (n + 79) q79 ∧ sheetAt G L (n + 81) q81 ∧ sheetAt G L (n + 83) q83
theorem doorAt.mono {G : td_G} {L L2 : va_W} {n a : Nat} (h : doorAt G L n a) (e : ∀ k, n ≤ k → k < n + 85 → L2[k]? = L[k]?) : doorAt G L2 n a := by
  obtain ⟨q1, q6, q11, q16, q17, q37, q43, q77, q79, q81, q83, z0, z1, z2, z3, z4, z5, z6, z7, z8, z9, z10, z11⟩ := h
  exact ⟨q1, q6, q11, q16, q17, q37, q43, q77, q79, q81, q83, (e _ (by omega) (by omega)).trans z0, z1.mono (fun k h1 h2 => e k (by omega) (by omega)), z2.mono (fun k h1 h2 => e k (by omega) (by omega)), z3.mono (fun k h1 h2 => e k (by omega) (by omega)), (e _ (by omega) (by omega)).trans z4, z5.mono (fun k h1 h2 => e k (by omega) (by omega)), z6.mono (fun k h1 h2 => e k (by omega) (by omega)), z7.mono (fun k h1 h2 => e k (by omega) (by omega)), z8.mono (fun k h1 h2 => e k (by omega) (by omega)), z9.mono (fun k h1 h2 => e k (by omega) (by omega)), z10.mono (fun k h1 h2 => e k (by omega) (by omega)), z11.mono (fun k h1 h2 => e k (by omega) (by omega))⟩
theorem doorAt.obj {G : td_G} {L : va_W} {n a : Nat} (h : doorAt G L n a) : ∃ vs, L[n]? = some (a, .inr (9, vs)) := by
  obtain ⟨q1, q6, q11, q16, q17, q37, q43, q77, q79, q81, q83, z0, z1, z2, z3, z4, z5, z6, z7, z8, z9, z10, z11⟩ := h
  exact ⟨_, z0⟩
set_option maxRecDepth 20000 in
set_option maxHeartbeats 4000000 in
theorem c_ini_door {G : td_G} {L : va_W} {n a : Nat} (hn : L.length = n + 1) (e0 : L[n]? = some (a, .inr (9, [.null, .null, .null, .null, .null, .null, .null, .int 0, .int 0]))) : k_C G 4 84 4477 mX9_init a L (fun L1 => L1.length = n + 85 ∧ (∀ k, k < n → L1[k]? = L[k]?) ∧ doorAt G L1 n a) := by
  refine k_entry rfl (Nat.le_of_ble_eq_true rfl) rfl ?_
  have keep : ∀ k, k < n → L[k]? = L[k]? := fun _ _ => rfl
  refine k_aload_n 0 dX9_init_0 rfl ?_
  refine k_obj (td_in 131 (by decide +kernel) rfl) kw_oi kw_oc dX9_init_1 (Nat.le_of_ble_eq_true rfl) (Nat.le_of_ble_eq_true rfl) ?_
  refine k_aload_n 0 dX9_init_4 rfl ?_
  refine k_new (n := n + 1) (fs := [.null, .null, .null, .null, .int 0]) tyX5 hn (ci := 5) rfl td_in_5 tyX5_ok (td_in 134 (by decide +kernel) rfl) (td_in 135 (by decide +kernel) rfl) (td_in 107 (by decide +kernel) rfl) dv_X5 (Nat.le_of_ble_eq_true rfl) (Nat.le_of_ble_eq_true rfl) dX9_init_5 (fun q1 L1 hn f1 g1 => ?_)
  have e0 : L1[n]? = some (a, .inr (9, [.null, .null, .null, .null, .null, .null, .null, .int 0, .int 0])) := (f1 n (kz_0 n (by decide))).trans e0
  have keep : ∀ k, k < n → L1[k]? = L[k]? := fun k hk => (f1 k (kz_k 1 hk)).trans (keep k hk)
  have x1 : L1[n + 1]? = some (q1, .inr (5, [.null, .null, .null, .null, .int 0])) := g1
  refine k_dup dX9_init_8 rfl ?_
  refine k_iniN (Mc := mX5_init) (d := 1) (mc := 4) (ms := 45) (host := "TurnDoor") (td_inN 31 (by decide +kernel) rfl) (td_in 137 (by decide +kernel) rfl) (td_in 107 (by decide +kernel) rfl) (td_in 138 (by decide +kernel) rfl) rfl rfl no_X5_init ⟨Nat.le_of_ble_eq_true rfl, Nat.le_of_ble_eq_true rfl⟩ ⟨Nat.le_of_ble_eq_true rfl, Nat.le_of_ble_eq_true rfl⟩ dX9_init_9 (Nat.le_of_ble_eq_true rfl) (c_ini_plan (n := n + 1) hn x1) (fun L2 hh => ?_)
  obtain ⟨h2, f2, g2⟩ := hh
  have e0 : L2[n]? = some (a, .inr (9, [.null, .null, .null, .null, .null, .null, .null, .int 0, .int 0])) := (f2 n (kz_0 n (by decide))).trans e0
  have keep : ∀ k, k < n → L2[k]? = L[k]? := fun k hk => (f2 k (kz_k 1 hk)).trans (keep k hk)
  have x1 : planAt G L2 (n + 1) q1 := g2
  have hn : L2.length = n + 6 := h2
  refine k_putF (n := n + 6) (q0 := n) (j := 0) (ty0 := tyX9) hn e0 (ci := 9) rfl rfl td_in_9 tyX9_ok nmX9 (by decide) rfl rfl (td_in 485 (by decide +kernel) rfl) rfl rfl (Nat.le_of_ble_eq_true rfl) dX9_init_12 (fun L3 hn f3 g3 => ?_)
  have e0 : L3[n]? = some (a, .inr (9, [.ref q1, .null, .null, .null, .null, .null, .null, .int 0, .int 0])) := g3
  have x1 := x1.mono (fun k z1 z2 => f3 k (kz_mn z1 (by decide)))
  have keep : ∀ k, k < n → L3[k]? = L[k]? := fun k hk => (f3 k (kz_nk hk)).trans (keep k hk)
  refine k_aload_n 0 dX9_init_15 rfl ?_
  refine k_new (n := n + 6) (fs := [.null, .null, .null, .null, .int 0]) tyX5 hn (ci := 5) rfl td_in_5 tyX5_ok (td_in 134 (by decide +kernel) rfl) (td_in 135 (by decide +kernel) rfl) (td_in 107 (by decide +kernel) rfl) dv_X5 (Nat.le_of_ble_eq_true rfl) (Nat.le_of_ble_eq_true rfl) dX9_init_16 (fun q6 L4 hn f4 g4 => ?_)
  have e0 : L4[n]? = some (a, .inr (9, [.ref q1, .null, .null, .null, .null, .null, .null, .int 0, .int 0])) := (f4 n (kz_0 n (by decide))).trans e0
  have x1 := x1.mono (fun k z1 z2 => f4 k (kz_m z2 (by decide)))
  have keep : ∀ k, k < n → L4[k]? = L[k]? := fun k hk => (f4 k (kz_k 6 hk)).trans (keep k hk)
  have x6 : L4[n + 6]? = some (q6, .inr (5, [.null, .null, .null, .null, .int 0])) := g4
  refine k_dup dX9_init_19 rfl ?_
  refine k_iniN (Mc := mX5_init) (d := 1) (mc := 4) (ms := 45) (host := "TurnDoor") (td_inN 31 (by decide +kernel) rfl) (td_in 137 (by decide +kernel) rfl) (td_in 107 (by decide +kernel) rfl) (td_in 138 (by decide +kernel) rfl) rfl rfl no_X5_init ⟨Nat.le_of_ble_eq_true rfl, Nat.le_of_ble_eq_true rfl⟩ ⟨Nat.le_of_ble_eq_true rfl, Nat.le_of_ble_eq_true rfl⟩ dX9_init_20 (Nat.le_of_ble_eq_true rfl) (c_ini_plan (n := n + 6) hn x6) (fun L5 hh => ?_)
  obtain ⟨h5, f5, g5⟩ := hh
  have e0 : L5[n]? = some (a, .inr (9, [.ref q1, .null, .null, .null, .null, .null, .null, .int 0, .int 0])) := (f5 n (kz_0 n (by decide))).trans e0
  have x1 := x1.mono (fun k z1 z2 => f5 k (kz_m z2 (by decide)))
  have keep : ∀ k, k < n → L5[k]? = L[k]? := fun k hk => (f5 k (kz_k 6 hk)).trans (keep k hk)
  have x6 : planAt G L5 (n + 6) q6 := g5
  have hn : L5.length = n + 11 := h5
  refine k_putF (n := n + 11) (q0 := n) (j := 1) (ty0 := tyX9) hn e0 (ci := 9) rfl rfl td_in_9 tyX9_ok nmX9 (by decide) rfl rfl (td_in 486 (by decide +kernel) rfl) rfl rfl (Nat.le_of_ble_eq_true rfl) dX9_init_23 (fun L6 hn f6 g6 => ?_)
  have e0 : L6[n]? = some (a, .inr (9, [.ref q1, .ref q6, .null, .null, .null, .null, .null, .int 0, .int 0])) := g6
  have x1 := x1.mono (fun k z1 z2 => f6 k (kz_mn z1 (by decide)))
  have x6 := x6.mono (fun k z1 z2 => f6 k (kz_mn z1 (by decide)))
  have keep : ∀ k, k < n → L6[k]? = L[k]? := fun k hk => (f6 k (kz_nk hk)).trans (keep k hk)
  refine k_aload_n 0 dX9_init_26 rfl ?_
  refine k_new (n := n + 11) (fs := [.null, .null, .null, .null, .int 0, .int 0, .int 0]) tyX7 hn (ci := 7) rfl td_in_7 tyX7_ok (td_in 179 (by decide +kernel) rfl) (td_in 180 (by decide +kernel) rfl) (td_in 109 (by decide +kernel) rfl) dv_X7 (Nat.le_of_ble_eq_true rfl) (Nat.le_of_ble_eq_true rfl) dX9_init_27 (fun q11 L7 hn f7 g7 => ?_)
  have e0 : L7[n]? = some (a, .inr (9, [.ref q1, .ref q6, .null, .null, .null, .null, .null, .int 0, .int 0])) := (f7 n (kz_0 n (by decide))).trans e0
  have x1 := x1.mono (fun k z1 z2 => f7 k (kz_m z2 (by decide)))
  have x6 := x6.mono (fun k z1 z2 => f7 k (kz_m z2 (by decide)))
  have keep : ∀ k, k < n → L7[k]? = L[k]? := fun k hk => (f7 k (kz_k 11 hk)).trans (keep k hk)
  have x11 : L7[n + 11]? = some (q11, .inr (7, [.null, .null, .null, .null, .int 0, .int 0, .int 0])) := g7
  refine k_dup dX9_init_30 rfl ?_
  refine k_iniN (Mc := mX7_init) (d := 1) (mc := 4) (ms := 104) (host := "TurnDoor") (td_inN 76 (by decide +kernel) rfl) (td_in 182 (by decide +kernel) rfl) (td_in 109 (by decide +kernel) rfl) (td_in 183 (by decide +kernel) rfl) rfl rfl no_X7_init ⟨Nat.le_of_ble_eq_true rfl, Nat.le_of_ble_eq_true rfl⟩ ⟨Nat.le_of_ble_eq_true rfl, Nat.le_of_ble_eq_true rfl⟩ dX9_init_31 (Nat.le_of_ble_eq_true rfl) (c_ini_tape (n := n + 11) hn x11) (fun L8 hh => ?_)
  obtain ⟨h8, f8, g8⟩ := hh
  have e0 : L8[n]? = some (a, .inr (9, [.ref q1, .ref q6, .null, .null, .null, .null, .null, .int 0, .int 0])) := (f8 n (kz_0 n (by decide))).trans e0
  have x1 := x1.mono (fun k z1 z2 => f8 k (kz_m z2 (by decide)))
  have x6 := x6.mono (fun k z1 z2 => f8 k (kz_m z2 (by decide)))
  have keep : ∀ k, k < n → L8[k]? = L[k]? := fun k hk => (f8 k (kz_k 11 hk)).trans (keep k hk)
  have x11 : tapeAt G L8 (n + 11) q11 := g8
  have hn : L8.length = n + 16 := h8
  refine k_putF (n := n + 16) (q0 := n) (j := 2) (ty0 := tyX9) hn e0 (ci := 9) rfl rfl td_in_9 tyX9_ok nmX9 (by decide) rfl rfl (td_in 487 (by decide +kernel) rfl) rfl rfl (Nat.le_of_ble_eq_true rfl) dX9_init_34 (fun L9 hn f9 g9 => ?_)
  have e0 : L9[n]? = some (a, .inr (9, [.ref q1, .ref q6, .ref q11, .null, .null, .null, .null, .int 0, .int 0])) := g9
  have x1 := x1.mono (fun k z1 z2 => f9 k (kz_mn z1 (by decide)))
  have x6 := x6.mono (fun k z1 z2 => f9 k (kz_mn z1 (by decide)))
  have x11 := x11.mono (fun k z1 z2 => f9 k (kz_mn z1 (by decide)))
  have keep : ∀ k, k < n → L9[k]? = L[k]? := fun k hk => (f9 k (kz_nk hk)).trans (keep k hk)
  refine k_aload_n 0 dX9_init_37 rfl ?_
  refine k_iconst (v := 4) dX9_init_38 (by decide) ?_
  refine k_newq (n := n + 16) (N := 4) hn (td_in 212 (by decide +kernel) rfl) (by decide) (by decide) (by decide) (Nat.le_of_ble_eq_true rfl) (Nat.le_of_ble_eq_true rfl) dX9_init_39 (fun q16 L10 hn f10 g10 => ?_)
  have e0 : L10[n]? = some (a, .inr (9, [.ref q1, .ref q6, .ref q11, .null, .null, .null, .null, .int 0, .int 0])) := (f10 n (kz_0 n (by decide))).trans e0
  have x1 := x1.mono (fun k z1 z2 => f10 k (kz_m z2 (by decide)))
  have x6 := x6.mono (fun k z1 z2 => f10 k (kz_m z2 (by decide)))
  have x11 := x11.mono (fun k z1 z2 => f10 k (kz_m z2 (by decide)))
  have keep : ∀ k, k < n → L10[k]? = L[k]? := fun k hk => (f10 k (kz_k 16 hk)).trans (keep k hk)
  have x16 : L10[n + 16]? = some (q16, .inl (G.2.2.2.1, 4, .inr (.inr (.inr (.inr (fun _ => none)))))) := g10
  refine k_putF (n := n + 17) (q0 := n) (j := 3) (ty0 := tyX9) hn e0 (ci := 9) rfl rfl td_in_9 tyX9_ok nmX9 (by decide) rfl rfl (td_in 488 (by decide +kernel) rfl) rfl rfl (Nat.le_of_ble_eq_true rfl) dX9_init_42 (fun L11 hn f11 g11 => ?_)
  have e0 : L11[n]? = some (a, .inr (9, [.ref q1, .ref q6, .ref q11, .ref q16, .null, .null, .null, .int 0, .int 0])) := g11
  have x1 := x1.mono (fun k z1 z2 => f11 k (kz_mn z1 (by decide)))
  have x6 := x6.mono (fun k z1 z2 => f11 k (kz_mn z1 (by decide)))
  have x11 := x11.mono (fun k z1 z2 => f11 k (kz_mn z1 (by decide)))
  have x16 := (f11 _ (kz_ne n (by decide))).trans x16
  have keep : ∀ k, k < n → L11[k]? = L[k]? := fun k hk => (f11 k (kz_nk hk)).trans (keep k hk)
  refine k_aload_n 0 dX9_init_45 rfl ?_
  refine k_new (n := n + 17) (fs := [.null, .null, .null, .null, .null, .null, .int 0, .int 0, .int 0, .int 0, .int 0, .int 0, .int 0, .int 0, .int 0]) tyX0 hn (ci := 0) rfl td_in_0 tyX0_ok (td_in 214 (by decide +kernel) rfl) (td_in 215 (by decide +kernel) rfl) (td_in 110 (by decide +kernel) rfl) dv_X0 (Nat.le_of_ble_eq_true rfl) (Nat.le_of_ble_eq_true rfl) dX9_init_46 (fun q17 L12 hn f12 g12 => ?_)
  have e0 : L12[n]? = some (a, .inr (9, [.ref q1, .ref q6, .ref q11, .ref q16, .null, .null, .null, .int 0, .int 0])) := (f12 n (kz_0 n (by decide))).trans e0
  have x1 := x1.mono (fun k z1 z2 => f12 k (kz_m z2 (by decide)))
  have x6 := x6.mono (fun k z1 z2 => f12 k (kz_m z2 (by decide)))
  have x11 := x11.mono (fun k z1 z2 => f12 k (kz_m z2 (by decide)))
  have x16 := (f12 _ (kz_a n (by decide))).trans x16
  have keep : ∀ k, k < n → L12[k]? = L[k]? := fun k hk => (f12 k (kz_k 17 hk)).trans (keep k hk)
  have x17 : L12[n + 17]? = some (q17, .inr (0, [.null, .null, .null, .null, .null, .null, .int 0, .int 0, .int 0, .int 0, .int 0, .int 0, .int 0, .int 0, .int 0])) := g12
  refine k_dup dX9_init_49 rfl ?_
  refine k_iniN (Mc := mX0_init) (d := 2) (mc := 19) (ms := 390) (host := "TurnDoor") (td_inN 111 (by decide +kernel) rfl) (td_in 217 (by decide +kernel) rfl) (td_in 110 (by decide +kernel) rfl) (td_in 218 (by decide +kernel) rfl) rfl rfl no_X0_init ⟨Nat.le_of_ble_eq_true rfl, Nat.le_of_ble_eq_true rfl⟩ ⟨Nat.le_of_ble_eq_true rfl, Nat.le_of_ble_eq_true rfl⟩ dX9_init_50 (Nat.le_of_ble_eq_true rfl) (c_ini_course (n := n + 17) hn x17) (fun L13 hh => ?_)
  obtain ⟨h13, f13, g13⟩ := hh
  have e0 : L13[n]? = some (a, .inr (9, [.ref q1, .ref q6, .ref q11, .ref q16, .null, .null, .null, .int 0, .int 0])) := (f13 n (kz_0 n (by decide))).trans e0
  have x1 := x1.mono (fun k z1 z2 => f13 k (kz_m z2 (by decide)))
  have x6 := x6.mono (fun k z1 z2 => f13 k (kz_m z2 (by decide)))
  have x11 := x11.mono (fun k z1 z2 => f13 k (kz_m z2 (by decide)))
  have x16 := (f13 _ (kz_a n (by decide))).trans x16
  have keep : ∀ k, k < n → L13[k]? = L[k]? := fun k hk => (f13 k (kz_k 17 hk)).trans (keep k hk)
  have x17 : courseAt G L13 (n + 17) q17 := g13
  have hn : L13.length = n + 37 := h13
  refine k_putF (n := n + 37) (q0 := n) (j := 4) (ty0 := tyX9) hn e0 (ci := 9) rfl rfl td_in_9 tyX9_ok nmX9 (by decide) rfl rfl (td_in 489 (by decide +kernel) rfl) rfl rfl (Nat.le_of_ble_eq_true rfl) dX9_init_53 (fun L14 hn f14 g14 => ?_)
  have e0 : L14[n]? = some (a, .inr (9, [.ref q1, .ref q6, .ref q11, .ref q16, .ref q17, .null, .null, .int 0, .int 0])) := g14
  have x1 := x1.mono (fun k z1 z2 => f14 k (kz_mn z1 (by decide)))
  have x6 := x6.mono (fun k z1 z2 => f14 k (kz_mn z1 (by decide)))
  have x11 := x11.mono (fun k z1 z2 => f14 k (kz_mn z1 (by decide)))
  have x16 := (f14 _ (kz_ne n (by decide))).trans x16
  have x17 := x17.mono (fun k z1 z2 => f14 k (kz_mn z1 (by decide)))
  have keep : ∀ k, k < n → L14[k]? = L[k]? := fun k hk => (f14 k (kz_nk hk)).trans (keep k hk)
  refine k_aload_n 0 dX9_init_56 rfl ?_
  refine k_new (n := n + 37) (fs := [.null, .null, .null, .null, .null]) tyX3 hn (ci := 3) rfl td_in_3 tyX3_ok (td_in 365 (by decide +kernel) rfl) (td_in 366 (by decide +kernel) rfl) (td_in 113 (by decide +kernel) rfl) dv_X3 (Nat.le_of_ble_eq_true rfl) (Nat.le_of_ble_eq_true rfl) dX9_init_57 (fun q37 L15 hn f15 g15 => ?_)
  have e0 : L15[n]? = some (a, .inr (9, [.ref q1, .ref q6, .ref q11, .ref q16, .ref q17, .null, .null, .int 0, .int 0])) := (f15 n (kz_0 n (by decide))).trans e0
  have x1 := x1.mono (fun k z1 z2 => f15 k (kz_m z2 (by decide)))
  have x6 := x6.mono (fun k z1 z2 => f15 k (kz_m z2 (by decide)))
  have x11 := x11.mono (fun k z1 z2 => f15 k (kz_m z2 (by decide)))
  have x16 := (f15 _ (kz_a n (by decide))).trans x16
  have x17 := x17.mono (fun k z1 z2 => f15 k (kz_m z2 (by decide)))
  have keep : ∀ k, k < n → L15[k]? = L[k]? := fun k hk => (f15 k (kz_k 37 hk)).trans (keep k hk)
  have x37 : L15[n + 37]? = some (q37, .inr (3, [.null, .null, .null, .null, .null])) := g15
  refine k_dup dX9_init_60 rfl ?_
  refine k_iniN (Mc := mX3_init) (d := 1) (mc := 5) (ms := 960) (host := "TurnDoor") (td_inN 262 (by decide +kernel) rfl) (td_in 368 (by decide +kernel) rfl) (td_in 113 (by decide +kernel) rfl) (td_in 369 (by decide +kernel) rfl) rfl rfl no_X3_init ⟨Nat.le_of_ble_eq_true rfl, Nat.le_of_ble_eq_true rfl⟩ ⟨Nat.le_of_ble_eq_true rfl, Nat.le_of_ble_eq_true rfl⟩ dX9_init_61 (Nat.le_of_ble_eq_true rfl) (c_ini_log (n := n + 37) hn x37) (fun L16 hh => ?_)
  obtain ⟨h16, f16, g16⟩ := hh
  have e0 : L16[n]? = some (a, .inr (9, [.ref q1, .ref q6, .ref q11, .ref q16, .ref q17, .null, .null, .int 0, .int 0])) := (f16 n (kz_0 n (by decide))).trans e0
  have x1 := x1.mono (fun k z1 z2 => f16 k (kz_m z2 (by decide)))
  have x6 := x6.mono (fun k z1 z2 => f16 k (kz_m z2 (by decide)))
  have x11 := x11.mono (fun k z1 z2 => f16 k (kz_m z2 (by decide)))
  have x16 := (f16 _ (kz_a n (by decide))).trans x16
  have x17 := x17.mono (fun k z1 z2 => f16 k (kz_m z2 (by decide)))
  have keep : ∀ k, k < n → L16[k]? = L[k]? := fun k hk => (f16 k (kz_k 37 hk)).trans (keep k hk)
  have x37 : logAt G L16 (n + 37) q37 := g16
  have hn : L16.length = n + 43 := h16
  refine k_putF (n := n + 43) (q0 := n) (j := 5) (ty0 := tyX9) hn e0 (ci := 9) rfl rfl td_in_9 tyX9_ok nmX9 (by decide) rfl rfl (td_in 490 (by decide +kernel) rfl) rfl rfl (Nat.le_of_ble_eq_true rfl) dX9_init_64 (fun L17 hn f17 g17 => ?_)
  have e0 : L17[n]? = some (a, .inr (9, [.ref q1, .ref q6, .ref q11, .ref q16, .ref q17, .ref q37, .null, .int 0, .int 0])) := g17
  have x1 := x1.mono (fun k z1 z2 => f17 k (kz_mn z1 (by decide)))
  have x6 := x6.mono (fun k z1 z2 => f17 k (kz_mn z1 (by decide)))
  have x11 := x11.mono (fun k z1 z2 => f17 k (kz_mn z1 (by decide)))
  have x16 := (f17 _ (kz_ne n (by decide))).trans x16
  have x17 := x17.mono (fun k z1 z2 => f17 k (kz_mn z1 (by decide)))
  have x37 := x37.mono (fun k z1 z2 => f17 k (kz_mn z1 (by decide)))
  have keep : ∀ k, k < n → L17[k]? = L[k]? := fun k hk => (f17 k (kz_nk hk)).trans (keep k hk)
  refine k_aload_n 0 dX9_init_67 rfl ?_
  refine k_new (n := n + 43) (fs := [.null, .null, .null, .null, .null, .null, .null, .int 0, .int 0, .int 0, .int 0]) tyX8 hn (ci := 8) rfl td_in_8 tyX8_ok (td_in 392 (by decide +kernel) rfl) (td_in 393 (by decide +kernel) rfl) (td_in 114 (by decide +kernel) rfl) dv_X8 (Nat.le_of_ble_eq_true rfl) (Nat.le_of_ble_eq_true rfl) dX9_init_68 (fun q43 L18 hn f18 g18 => ?_)
  have e0 : L18[n]? = some (a, .inr (9, [.ref q1, .ref q6, .ref q11, .ref q16, .ref q17, .ref q37, .null, .int 0, .int 0])) := (f18 n (kz_0 n (by decide))).trans e0
  have x1 := x1.mono (fun k z1 z2 => f18 k (kz_m z2 (by decide)))
  have x6 := x6.mono (fun k z1 z2 => f18 k (kz_m z2 (by decide)))
  have x11 := x11.mono (fun k z1 z2 => f18 k (kz_m z2 (by decide)))
  have x16 := (f18 _ (kz_a n (by decide))).trans x16
  have x17 := x17.mono (fun k z1 z2 => f18 k (kz_m z2 (by decide)))
  have x37 := x37.mono (fun k z1 z2 => f18 k (kz_m z2 (by decide)))
  have keep : ∀ k, k < n → L18[k]? = L[k]? := fun k hk => (f18 k (kz_k 43 hk)).trans (keep k hk)
  have x43 : L18[n + 43]? = some (q43, .inr (8, [.null, .null, .null, .null, .null, .null, .null, .int 0, .int 0, .int 0, .int 0])) := g18
  refine k_dup dX9_init_71 rfl ?_
  refine k_iniN (Mc := mX8_init) (d := 3) (mc := 33) (ms := 2805) (host := "TurnDoor") (td_inN 289 (by decide +kernel) rfl) (td_in 395 (by decide +kernel) rfl) (td_in 114 (by decide +kernel) rfl) (td_in 396 (by decide +kernel) rfl) rfl rfl no_X8_init ⟨Nat.le_of_ble_eq_true rfl, Nat.le_of_ble_eq_true rfl⟩ ⟨Nat.le_of_ble_eq_true rfl, Nat.le_of_ble_eq_true rfl⟩ dX9_init_72 (Nat.le_of_ble_eq_true rfl) (c_ini_trials (n := n + 43) hn x43) (fun L19 hh => ?_)
  obtain ⟨h19, f19, g19⟩ := hh
  have e0 : L19[n]? = some (a, .inr (9, [.ref q1, .ref q6, .ref q11, .ref q16, .ref q17, .ref q37, .null, .int 0, .int 0])) := (f19 n (kz_0 n (by decide))).trans e0
  have x1 := x1.mono (fun k z1 z2 => f19 k (kz_m z2 (by decide)))
  have x6 := x6.mono (fun k z1 z2 => f19 k (kz_m z2 (by decide)))
  have x11 := x11.mono (fun k z1 z2 => f19 k (kz_m z2 (by decide)))
  have x16 := (f19 _ (kz_a n (by decide))).trans x16
  have x17 := x17.mono (fun k z1 z2 => f19 k (kz_m z2 (by decide)))
  have x37 := x37.mono (fun k z1 z2 => f19 k (kz_m z2 (by decide)))
  have keep : ∀ k, k < n → L19[k]? = L[k]? := fun k hk => (f19 k (kz_k 43 hk)).trans (keep k hk)
  have x43 : trialsAt G L19 (n + 43) q43 := g19
  have hn : L19.length = n + 77 := h19
  refine k_putF (n := n + 77) (q0 := n) (j := 6) (ty0 := tyX9) hn e0 (ci := 9) rfl rfl td_in_9 tyX9_ok nmX9 (by decide) rfl rfl (td_in 491 (by decide +kernel) rfl) rfl rfl (Nat.le_of_ble_eq_true rfl) dX9_init_75 (fun L20 hn f20 g20 => ?_)
  have e0 : L20[n]? = some (a, .inr (9, [.ref q1, .ref q6, .ref q11, .ref q16, .ref q17, .ref q37, .ref q43, .int 0, .int 0])) := g20
  have x1 := x1.mono (fun k z1 z2 => f20 k (kz_mn z1 (by decide)))
  have x6 := x6.mono (fun k z1 z2 => f20 k (kz_mn z1 (by decide)))
  have x11 := x11.mono (fun k z1 z2 => f20 k (kz_mn z1 (by decide)))
  have x16 := (f20 _ (kz_ne n (by decide))).trans x16
  have x17 := x17.mono (fun k z1 z2 => f20 k (kz_mn z1 (by decide)))
  have x37 := x37.mono (fun k z1 z2 => f20 k (kz_mn z1 (by decide)))
  have x43 := x43.mono (fun k z1 z2 => f20 k (kz_mn z1 (by decide)))
  have keep : ∀ k, k < n → L20[k]? = L[k]? := fun k hk => (f20 k (kz_nk hk)).trans (keep k hk)
  refine k_iconst (v := 0) dX9_init_78 (by decide) ?_
  refine k_istore_n (lv2 := [(0, .ref a), (1, .int 0)]) dX9_init_79 (by decide) rfl ?_
  refine k_iload_n 1 dX9_init_80 rfl ?_
  refine k_aload_n 0 dX9_init_81 rfl ?_
  refine k_get (q0 := n) (j := 3) e0 (ci := 9) rfl td_in_9 (by decide) rfl (td_in 488 (by decide +kernel) rfl) rfl dX9_init_82 ?_
  refine k_alenq (q0 := n + 16) x16 (v := 4) rfl dX9_init_85 ?_
  refine k_icmp_ge (tgt := 108) dX9_init_86 (by decide) (fun z => absurd z (by decide)) (fun _ => ?_)
  refine k_aload_n 0 dX9_init_89 rfl ?_
  refine k_get (q0 := n) (j := 3) e0 (ci := 9) rfl td_in_9 (by decide) rfl (td_in 488 (by decide +kernel) rfl) rfl dX9_init_90 ?_
  refine k_iload_n 1 dX9_init_93 rfl ?_
  refine k_new (n := n + 77) (fs := [.null, .int 0, .int 0]) tyX6 hn (ci := 6) rfl td_in_6 tyX6_ok (td_in 212 (by decide +kernel) rfl) (td_in 470 (by decide +kernel) rfl) (td_in 116 (by decide +kernel) rfl) dv_X6 (Nat.le_of_ble_eq_true rfl) (Nat.le_of_ble_eq_true rfl) dX9_init_94 (fun q77 L21 hn f21 g21 => ?_)
  have e0 : L21[n]? = some (a, .inr (9, [.ref q1, .ref q6, .ref q11, .ref q16, .ref q17, .ref q37, .ref q43, .int 0, .int 0])) := (f21 n (kz_0 n (by decide))).trans e0
  have x1 := x1.mono (fun k z1 z2 => f21 k (kz_m z2 (by decide)))
  have x6 := x6.mono (fun k z1 z2 => f21 k (kz_m z2 (by decide)))
  have x11 := x11.mono (fun k z1 z2 => f21 k (kz_m z2 (by decide)))
  have x16 := (f21 _ (kz_a n (by decide))).trans x16
  have x17 := x17.mono (fun k z1 z2 => f21 k (kz_m z2 (by decide)))
  have x37 := x37.mono (fun k z1 z2 => f21 k (kz_m z2 (by decide)))
  have x43 := x43.mono (fun k z1 z2 => f21 k (kz_m z2 (by decide)))
  have keep : ∀ k, k < n → L21[k]? = L[k]? := fun k hk => (f21 k (kz_k 77 hk)).trans (keep k hk)
  have x77 : L21[n + 77]? = some (q77, .inr (6, [.null, .int 0, .int 0])) := g21
  refine k_dup dX9_init_97 rfl ?_
  refine k_iniN (Mc := mX6_init) (d := 1) (mc := 1) (ms := 16) (host := "TurnDoor") (td_inN 366 (by decide +kernel) rfl) (td_in 472 (by decide +kernel) rfl) (td_in 116 (by decide +kernel) rfl) (td_in 473 (by decide +kernel) rfl) rfl rfl no_X6_init ⟨Nat.le_of_ble_eq_true rfl, Nat.le_of_ble_eq_true rfl⟩ ⟨Nat.le_of_ble_eq_true rfl, Nat.le_of_ble_eq_true rfl⟩ dX9_init_98 (Nat.le_of_ble_eq_true rfl) (c_ini_sheet (n := n + 77) hn x77) (fun L22 hh => ?_)
  obtain ⟨h22, f22, g22⟩ := hh
  have e0 : L22[n]? = some (a, .inr (9, [.ref q1, .ref q6, .ref q11, .ref q16, .ref q17, .ref q37, .ref q43, .int 0, .int 0])) := (f22 n (kz_0 n (by decide))).trans e0
  have x1 := x1.mono (fun k z1 z2 => f22 k (kz_m z2 (by decide)))
  have x6 := x6.mono (fun k z1 z2 => f22 k (kz_m z2 (by decide)))
  have x11 := x11.mono (fun k z1 z2 => f22 k (kz_m z2 (by decide)))
  have x16 := (f22 _ (kz_a n (by decide))).trans x16
  have x17 := x17.mono (fun k z1 z2 => f22 k (kz_m z2 (by decide)))
  have x37 := x37.mono (fun k z1 z2 => f22 k (kz_m z2 (by decide)))
  have x43 := x43.mono (fun k z1 z2 => f22 k (kz_m z2 (by decide)))
  have keep : ∀ k, k < n → L22[k]? = L[k]? := fun k hk => (f22 k (kz_k 77 hk)).trans (keep k hk)
  have x77 : sheetAt G L22 (n + 77) q77 := g22
  have hn : L22.length = n + 79 := h22
  obtain ⟨vs, hvs⟩ := x77.obj
  refine k_astq (n := n + 79) (q0 := n + 16) (qk := n + 77) hn x16 hvs (by unfold vp_in; decide) dX9_init_101 (fun L23 hn f23 g23 => ?_)
  have e0 : L23[n]? = some (a, .inr (9, [.ref q1, .ref q6, .ref q11, .ref q16, .ref q17, .ref q37, .ref q43, .int 0, .int 0])) := (f23 n (kz_n0 n (by decide))).trans e0
  have x1 := x1.mono (fun k z1 z2 => f23 k (kz_mb z2 (by decide)))
  have x6 := x6.mono (fun k z1 z2 => f23 k (kz_mb z2 (by decide)))
  have x11 := x11.mono (fun k z1 z2 => f23 k (kz_mb z2 (by decide)))
  have x17 := x17.mono (fun k z1 z2 => f23 k (kz_ma z1 (by decide)))
  have x37 := x37.mono (fun k z1 z2 => f23 k (kz_ma z1 (by decide)))
  have x43 := x43.mono (fun k z1 z2 => f23 k (kz_ma z1 (by decide)))
  have x77 := x77.mono (fun k z1 z2 => f23 k (kz_ma z1 (by decide)))
  have x16 : L23[n + 16]? = some (q16, .inl (G.2.2.2.1, 4, .inr (.inr (.inr (.inr (va_up (fun _ => none) 0 (some q77))))))) := g23
  have keep : ∀ k, k < n → L23[k]? = L[k]? := fun k hk => (f23 k (kz_nk2 16 hk)).trans (keep k hk)
  refine k_iinc 1 (v := 1) (lv2 := [(0, .ref a), (1, .int 1)]) dX9_init_102 rfl (by decide) (by decide) rfl ?_
  refine k_goto (tgt := 80) dX9_init_105 (by decide) ?_
  refine k_iload_n 1 dX9_init_80 rfl ?_
  refine k_aload_n 0 dX9_init_81 rfl ?_
  refine k_get (q0 := n) (j := 3) e0 (ci := 9) rfl td_in_9 (by decide) rfl (td_in 488 (by decide +kernel) rfl) rfl dX9_init_82 ?_
  refine k_alenq (q0 := n + 16) x16 (v := 4) rfl dX9_init_85 ?_
  refine k_icmp_ge (tgt := 108) dX9_init_86 (by decide) (fun z => absurd z (by decide)) (fun _ => ?_)
  refine k_aload_n 0 dX9_init_89 rfl ?_
  refine k_get (q0 := n) (j := 3) e0 (ci := 9) rfl td_in_9 (by decide) rfl (td_in 488 (by decide +kernel) rfl) rfl dX9_init_90 ?_
  refine k_iload_n 1 dX9_init_93 rfl ?_
  refine k_new (n := n + 79) (fs := [.null, .int 0, .int 0]) tyX6 hn (ci := 6) rfl td_in_6 tyX6_ok (td_in 212 (by decide +kernel) rfl) (td_in 470 (by decide +kernel) rfl) (td_in 116 (by decide +kernel) rfl) dv_X6 (Nat.le_of_ble_eq_true rfl) (Nat.le_of_ble_eq_true rfl) dX9_init_94 (fun q79 L24 hn f24 g24 => ?_)
  have e0 : L24[n]? = some (a, .inr (9, [.ref q1, .ref q6, .ref q11, .ref q16, .ref q17, .ref q37, .ref q43, .int 0, .int 0])) := (f24 n (kz_0 n (by decide))).trans e0
  have x1 := x1.mono (fun k z1 z2 => f24 k (kz_m z2 (by decide)))
  have x6 := x6.mono (fun k z1 z2 => f24 k (kz_m z2 (by decide)))
  have x11 := x11.mono (fun k z1 z2 => f24 k (kz_m z2 (by decide)))
  have x16 := (f24 _ (kz_a n (by decide))).trans x16
  have x17 := x17.mono (fun k z1 z2 => f24 k (kz_m z2 (by decide)))
  have x37 := x37.mono (fun k z1 z2 => f24 k (kz_m z2 (by decide)))
  have x43 := x43.mono (fun k z1 z2 => f24 k (kz_m z2 (by decide)))
  have x77 := x77.mono (fun k z1 z2 => f24 k (kz_m z2 (by decide)))
  have keep : ∀ k, k < n → L24[k]? = L[k]? := fun k hk => (f24 k (kz_k 79 hk)).trans (keep k hk)
  have x79 : L24[n + 79]? = some (q79, .inr (6, [.null, .int 0, .int 0])) := g24
  refine k_dup dX9_init_97 rfl ?_
  refine k_iniN (Mc := mX6_init) (d := 1) (mc := 1) (ms := 16) (host := "TurnDoor") (td_inN 366 (by decide +kernel) rfl) (td_in 472 (by decide +kernel) rfl) (td_in 116 (by decide +kernel) rfl) (td_in 473 (by decide +kernel) rfl) rfl rfl no_X6_init ⟨Nat.le_of_ble_eq_true rfl, Nat.le_of_ble_eq_true rfl⟩ ⟨Nat.le_of_ble_eq_true rfl, Nat.le_of_ble_eq_true rfl⟩ dX9_init_98 (Nat.le_of_ble_eq_true rfl) (c_ini_sheet (n := n + 79) hn x79) (fun L25 hh => ?_)
  obtain ⟨h25, f25, g25⟩ := hh
  have e0 : L25[n]? = some (a, .inr (9, [.ref q1, .ref q6, .ref q11, .ref q16, .ref q17, .ref q37, .ref q43, .int 0, .int 0])) := (f25 n (kz_0 n (by decide))).trans e0
  have x1 := x1.mono (fun k z1 z2 => f25 k (kz_m z2 (by decide)))
  have x6 := x6.mono (fun k z1 z2 => f25 k (kz_m z2 (by decide)))
  have x11 := x11.mono (fun k z1 z2 => f25 k (kz_m z2 (by decide)))
  have x16 := (f25 _ (kz_a n (by decide))).trans x16
  have x17 := x17.mono (fun k z1 z2 => f25 k (kz_m z2 (by decide)))
  have x37 := x37.mono (fun k z1 z2 => f25 k (kz_m z2 (by decide)))
  have x43 := x43.mono (fun k z1 z2 => f25 k (kz_m z2 (by decide)))
  have x77 := x77.mono (fun k z1 z2 => f25 k (kz_m z2 (by decide)))
  have keep : ∀ k, k < n → L25[k]? = L[k]? := fun k hk => (f25 k (kz_k 79 hk)).trans (keep k hk)
  have x79 : sheetAt G L25 (n + 79) q79 := g25
  have hn : L25.length = n + 81 := h25
  obtain ⟨vs, hvs⟩ := x79.obj
  refine k_astq (n := n + 81) (q0 := n + 16) (qk := n + 79) hn x16 hvs (by unfold vp_in; decide) dX9_init_101 (fun L26 hn f26 g26 => ?_)
  have e0 : L26[n]? = some (a, .inr (9, [.ref q1, .ref q6, .ref q11, .ref q16, .ref q17, .ref q37, .ref q43, .int 0, .int 0])) := (f26 n (kz_n0 n (by decide))).trans e0
  have x1 := x1.mono (fun k z1 z2 => f26 k (kz_mb z2 (by decide)))
  have x6 := x6.mono (fun k z1 z2 => f26 k (kz_mb z2 (by decide)))
  have x11 := x11.mono (fun k z1 z2 => f26 k (kz_mb z2 (by decide)))
  have x17 := x17.mono (fun k z1 z2 => f26 k (kz_ma z1 (by decide)))
  have x37 := x37.mono (fun k z1 z2 => f26 k (kz_ma z1 (by decide)))
  have x43 := x43.mono (fun k z1 z2 => f26 k (kz_ma z1 (by decide)))
  have x77 := x77.mono (fun k z1 z2 => f26 k (kz_ma z1 (by decide)))
  have x79 := x79.mono (fun k z1 z2 => f26 k (kz_ma z1 (by decide)))
  have x16 : L26[n + 16]? = some (q16, .inl (G.2.2.2.1, 4, .inr (.inr (.inr (.inr (va_up (va_up (fun _ => none) 0 (some q77)) 1 (some q79))))))) := g26
  have keep : ∀ k, k < n → L26[k]? = L[k]? := fun k hk => (f26 k (kz_nk2 16 hk)).trans (keep k hk)
  refine k_iinc 1 (v := 2) (lv2 := [(0, .ref a), (1, .int 2)]) dX9_init_102 rfl (by decide) (by decide) rfl ?_
  refine k_goto (tgt := 80) dX9_init_105 (by decide) ?_
  refine k_iload_n 1 dX9_init_80 rfl ?_
  refine k_aload_n 0 dX9_init_81 rfl ?_
  refine k_get (q0 := n) (j := 3) e0 (ci := 9) rfl td_in_9 (by decide) rfl (td_in 488 (by decide +kernel) rfl) rfl dX9_init_82 ?_
  refine k_alenq (q0 := n + 16) x16 (v := 4) rfl dX9_init_85 ?_
  refine k_icmp_ge (tgt := 108) dX9_init_86 (by decide) (fun z => absurd z (by decide)) (fun _ => ?_)
  refine k_aload_n 0 dX9_init_89 rfl ?_
  refine k_get (q0 := n) (j := 3) e0 (ci := 9) rfl td_in_9 (by decide) rfl (td_in 488 (by decide +kernel) rfl) rfl dX9_init_90 ?_
  refine k_iload_n 1 dX9_init_93 rfl ?_
  refine k_new (n := n + 81) (fs := [.null, .int 0, .int 0]) tyX6 hn (ci := 6) rfl td_in_6 tyX6_ok (td_in 212 (by decide +kernel) rfl) (td_in 470 (by decide +kernel) rfl) (td_in 116 (by decide +kernel) rfl) dv_X6 (Nat.le_of_ble_eq_true rfl) (Nat.le_of_ble_eq_true rfl) dX9_init_94 (fun q81 L27 hn f27 g27 => ?_)
  have e0 : L27[n]? = some (a, .inr (9, [.ref q1, .ref q6, .ref q11, .ref q16, .ref q17, .ref q37, .ref q43, .int 0, .int 0])) := (f27 n (kz_0 n (by decide))).trans e0
  have x1 := x1.mono (fun k z1 z2 => f27 k (kz_m z2 (by decide)))
  have x6 := x6.mono (fun k z1 z2 => f27 k (kz_m z2 (by decide)))
  have x11 := x11.mono (fun k z1 z2 => f27 k (kz_m z2 (by decide)))
  have x16 := (f27 _ (kz_a n (by decide))).trans x16
  have x17 := x17.mono (fun k z1 z2 => f27 k (kz_m z2 (by decide)))
  have x37 := x37.mono (fun k z1 z2 => f27 k (kz_m z2 (by decide)))
  have x43 := x43.mono (fun k z1 z2 => f27 k (kz_m z2 (by decide)))
  have x77 := x77.mono (fun k z1 z2 => f27 k (kz_m z2 (by decide)))
  have x79 := x79.mono (fun k z1 z2 => f27 k (kz_m z2 (by decide)))
  have keep : ∀ k, k < n → L27[k]? = L[k]? := fun k hk => (f27 k (kz_k 81 hk)).trans (keep k hk)
  have x81 : L27[n + 81]? = some (q81, .inr (6, [.null, .int 0, .int 0])) := g27
  refine k_dup dX9_init_97 rfl ?_
  refine k_iniN (Mc := mX6_init) (d := 1) (mc := 1) (ms := 16) (host := "TurnDoor") (td_inN 366 (by decide +kernel) rfl) (td_in 472 (by decide +kernel) rfl) (td_in 116 (by decide +kernel) rfl) (td_in 473 (by decide +kernel) rfl) rfl rfl no_X6_init ⟨Nat.le_of_ble_eq_true rfl, Nat.le_of_ble_eq_true rfl⟩ ⟨Nat.le_of_ble_eq_true rfl, Nat.le_of_ble_eq_true rfl⟩ dX9_init_98 (Nat.le_of_ble_eq_true rfl) (c_ini_sheet (n := n + 81) hn x81) (fun L28 hh => ?_)
  obtain ⟨h28, f28, g28⟩ := hh
  have e0 : L28[n]? = some (a, .inr (9, [.ref q1, .ref q6, .ref q11, .ref q16, .ref q17, .ref q37, .ref q43, .int 0, .int 0])) := (f28 n (kz_0 n (by decide))).trans e0
  have x1 := x1.mono (fun k z1 z2 => f28 k (kz_m z2 (by decide)))
  have x6 := x6.mono (fun k z1 z2 => f28 k (kz_m z2 (by decide)))
  have x11 := x11.mono (fun k z1 z2 => f28 k (kz_m z2 (by decide)))
  have x16 := (f28 _ (kz_a n (by decide))).trans x16
  have x17 := x17.mono (fun k z1 z2 => f28 k (kz_m z2 (by decide)))
  have x37 := x37.mono (fun k z1 z2 => f28 k (kz_m z2 (by decide)))
  have x43 := x43.mono (fun k z1 z2 => f28 k (kz_m z2 (by decide)))
  have x77 := x77.mono (fun k z1 z2 => f28 k (kz_m z2 (by decide)))
  have x79 := x79.mono (fun k z1 z2 => f28 k (kz_m z2 (by decide)))
  have keep : ∀ k, k < n → L28[k]? = L[k]? := fun k hk => (f28 k (kz_k 81 hk)).trans (keep k hk)
  have x81 : sheetAt G L28 (n + 81) q81 := g28
  have hn : L28.length = n + 83 := h28
  obtain ⟨vs, hvs⟩ := x81.obj
  refine k_astq (n := n + 83) (q0 := n + 16) (qk := n + 81) hn x16 hvs (by unfold vp_in; decide) dX9_init_101 (fun L29 hn f29 g29 => ?_)
  have e0 : L29[n]? = some (a, .inr (9, [.ref q1, .ref q6, .ref q11, .ref q16, .ref q17, .ref q37, .ref q43, .int 0, .int 0])) := (f29 n (kz_n0 n (by decide))).trans e0
  have x1 := x1.mono (fun k z1 z2 => f29 k (kz_mb z2 (by decide)))
  have x6 := x6.mono (fun k z1 z2 => f29 k (kz_mb z2 (by decide)))
  have x11 := x11.mono (fun k z1 z2 => f29 k (kz_mb z2 (by decide)))
  have x17 := x17.mono (fun k z1 z2 => f29 k (kz_ma z1 (by decide)))
  have x37 := x37.mono (fun k z1 z2 => f29 k (kz_ma z1 (by decide)))
  have x43 := x43.mono (fun k z1 z2 => f29 k (kz_ma z1 (by decide)))
  have x77 := x77.mono (fun k z1 z2 => f29 k (kz_ma z1 (by decide)))
  have x79 := x79.mono (fun k z1 z2 => f29 k (kz_ma z1 (by decide)))
  have x81 := x81.mono (fun k z1 z2 => f29 k (kz_ma z1 (by decide)))
  have x16 : L29[n + 16]? = some (q16, .inl (G.2.2.2.1, 4, .inr (.inr (.inr (.inr (va_up (va_up (va_up (fun _ => none) 0 (some q77)) 1 (some q79)) 2 (some q81))))))) := g29
  have keep : ∀ k, k < n → L29[k]? = L[k]? := fun k hk => (f29 k (kz_nk2 16 hk)).trans (keep k hk)
  refine k_iinc 1 (v := 3) (lv2 := [(0, .ref a), (1, .int 3)]) dX9_init_102 rfl (by decide) (by decide) rfl ?_
  refine k_goto (tgt := 80) dX9_init_105 (by decide) ?_
  refine k_iload_n 1 dX9_init_80 rfl ?_
  refine k_aload_n 0 dX9_init_81 rfl ?_
  refine k_get (q0 := n) (j := 3) e0 (ci := 9) rfl td_in_9 (by decide) rfl (td_in 488 (by decide +kernel) rfl) rfl dX9_init_82 ?_
  refine k_alenq (q0 := n + 16) x16 (v := 4) rfl dX9_init_85 ?_
  refine k_icmp_ge (tgt := 108) dX9_init_86 (by decide) (fun z => absurd z (by decide)) (fun _ => ?_)
  refine k_aload_n 0 dX9_init_89 rfl ?_
  refine k_get (q0 := n) (j := 3) e0 (ci := 9) rfl td_in_9 (by decide) rfl (td_in 488 (by decide +kernel) rfl) rfl dX9_init_90 ?_
  refine k_iload_n 1 dX9_init_93 rfl ?_
  refine k_new (n := n + 83) (fs := [.null, .int 0, .int 0]) tyX6 hn (ci := 6) rfl td_in_6 tyX6_ok (td_in 212 (by decide +kernel) rfl) (td_in 470 (by decide +kernel) rfl) (td_in 116 (by decide +kernel) rfl) dv_X6 (Nat.le_of_ble_eq_true rfl) (Nat.le_of_ble_eq_true rfl) dX9_init_94 (fun q83 L30 hn f30 g30 => ?_)
  have e0 : L30[n]? = some (a, .inr (9, [.ref q1, .ref q6, .ref q11, .ref q16, .ref q17, .ref q37, .ref q43, .int 0, .int 0])) := (f30 n (kz_0 n (by decide))).trans e0
  have x1 := x1.mono (fun k z1 z2 => f30 k (kz_m z2 (by decide)))
  have x6 := x6.mono (fun k z1 z2 => f30 k (kz_m z2 (by decide)))
  have x11 := x11.mono (fun k z1 z2 => f30 k (kz_m z2 (by decide)))
  have x16 := (f30 _ (kz_a n (by decide))).trans x16
  have x17 := x17.mono (fun k z1 z2 => f30 k (kz_m z2 (by decide)))
  have x37 := x37.mono (fun k z1 z2 => f30 k (kz_m z2 (by decide)))
  have x43 := x43.mono (fun k z1 z2 => f30 k (kz_m z2 (by decide)))
  have x77 := x77.mono (fun k z1 z2 => f30 k (kz_m z2 (by decide)))
  have x79 := x79.mono (fun k z1 z2 => f30 k (kz_m z2 (by decide)))
  have x81 := x81.mono (fun k z1 z2 => f30 k (kz_m z2 (by decide)))
  have keep : ∀ k, k < n → L30[k]? = L[k]? := fun k hk => (f30 k (kz_k 83 hk)).trans (keep k hk)
  have x83 : L30[n + 83]? = some (q83, .inr (6, [.null, .int 0, .int 0])) := g30
  refine k_dup dX9_init_97 rfl ?_
  refine k_iniN (Mc := mX6_init) (d := 1) (mc := 1) (ms := 16) (host := "TurnDoor") (td_inN 366 (by decide +kernel) rfl) (td_in 472 (by decide +kernel) rfl) (td_in 116 (by decide +kernel) rfl) (td_in 473 (by decide +kernel) rfl) rfl rfl no_X6_init ⟨Nat.le_of_ble_eq_true rfl, Nat.le_of_ble_eq_true rfl⟩ ⟨Nat.le_of_ble_eq_true rfl, Nat.le_of_ble_eq_true rfl⟩ dX9_init_98 (Nat.le_of_ble_eq_true rfl) (c_ini_sheet (n := n + 83) hn x83) (fun L31 hh => ?_)
  obtain ⟨h31, f31, g31⟩ := hh
  have e0 : L31[n]? = some (a, .inr (9, [.ref q1, .ref q6, .ref q11, .ref q16, .ref q17, .ref q37, .ref q43, .int 0, .int 0])) := (f31 n (kz_0 n (by decide))).trans e0
  have x1 := x1.mono (fun k z1 z2 => f31 k (kz_m z2 (by decide)))
  have x6 := x6.mono (fun k z1 z2 => f31 k (kz_m z2 (by decide)))
  have x11 := x11.mono (fun k z1 z2 => f31 k (kz_m z2 (by decide)))
  have x16 := (f31 _ (kz_a n (by decide))).trans x16
  have x17 := x17.mono (fun k z1 z2 => f31 k (kz_m z2 (by decide)))
  have x37 := x37.mono (fun k z1 z2 => f31 k (kz_m z2 (by decide)))
  have x43 := x43.mono (fun k z1 z2 => f31 k (kz_m z2 (by decide)))
  have x77 := x77.mono (fun k z1 z2 => f31 k (kz_m z2 (by decide)))
  have x79 := x79.mono (fun k z1 z2 => f31 k (kz_m z2 (by decide)))
  have x81 := x81.mono (fun k z1 z2 => f31 k (kz_m z2 (by decide)))
  have keep : ∀ k, k < n → L31[k]? = L[k]? := fun k hk => (f31 k (kz_k 83 hk)).trans (keep k hk)
  have x83 : sheetAt G L31 (n + 83) q83 := g31
  have hn : L31.length = n + 85 := h31
  obtain ⟨vs, hvs⟩ := x83.obj
  refine k_astq (n := n + 85) (q0 := n + 16) (qk := n + 83) hn x16 hvs (by unfold vp_in; decide) dX9_init_101 (fun L32 hn f32 g32 => ?_)
  have e0 : L32[n]? = some (a, .inr (9, [.ref q1, .ref q6, .ref q11, .ref q16, .ref q17, .ref q37, .ref q43, .int 0, .int 0])) := (f32 n (kz_n0 n (by decide))).trans e0
  have x1 := x1.mono (fun k z1 z2 => f32 k (kz_mb z2 (by decide)))
  have x6 := x6.mono (fun k z1 z2 => f32 k (kz_mb z2 (by decide)))
  have x11 := x11.mono (fun k z1 z2 => f32 k (kz_mb z2 (by decide)))
  have x17 := x17.mono (fun k z1 z2 => f32 k (kz_ma z1 (by decide)))
  have x37 := x37.mono (fun k z1 z2 => f32 k (kz_ma z1 (by decide)))
  have x43 := x43.mono (fun k z1 z2 => f32 k (kz_ma z1 (by decide)))
  have x77 := x77.mono (fun k z1 z2 => f32 k (kz_ma z1 (by decide)))
  have x79 := x79.mono (fun k z1 z2 => f32 k (kz_ma z1 (by decide)))
  have x81 := x81.mono (fun k z1 z2 => f32 k (kz_ma z1 (by decide)))
  have x83 := x83.mono (fun k z1 z2 => f32 k (kz_ma z1 (by decide)))
  have x16 : L32[n + 16]? = some (q16, .inl (G.2.2.2.1, 4, .inr (.inr (.inr (.inr (va_up (va_up (va_up (va_up (fun _ => none) 0 (some q77)) 1 (some q79)) 2 (some q81)) 3 (some q83))))))) := g32
  have keep : ∀ k, k < n → L32[k]? = L[k]? := fun k hk => (f32 k (kz_nk2 16 hk)).trans (keep k hk)
  refine k_iinc 1 (v := 4) (lv2 := [(0, .ref a), (1, .int 4)]) dX9_init_102 rfl (by decide) (by decide) rfl ?_
  refine k_goto (tgt := 80) dX9_init_105 (by decide) ?_
  refine k_iload_n 1 dX9_init_80 rfl ?_
  refine k_aload_n 0 dX9_init_81 rfl ?_
  refine k_get (q0 := n) (j := 3) e0 (ci := 9) rfl td_in_9 (by decide) rfl (td_in 488 (by decide +kernel) rfl) rfl dX9_init_82 ?_
  refine k_alenq (q0 := n + 16) x16 (v := 4) rfl dX9_init_85 ?_
  refine k_icmp_ge (tgt := 108) dX9_init_86 (by decide) (fun _ => ?_) (fun z => absurd (by decide) z)
  exact k_return rfl (Nat.le_of_ble_eq_true rfl) (Nat.le_of_ble_eq_true rfl) dX9_init_108 ⟨hn, keep, ⟨q1, q6, q11, q16, q17, q37, q43, q77, q79, q81, q83, e0, x1, x6, x11, x16, x17, x37, x43, x77, x79, x81, x83⟩⟩
