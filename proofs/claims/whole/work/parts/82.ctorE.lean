def modelAt (G : td_G) (L : va_W) (n a : Nat) : Prop := ∃ q1 q2 q3 q4 q5 q6 q7 q8 q9 q10 q11 q12 q13 q14 q15 q16 q17 q18 q19 q20 q21 : Nat, L[n]? = some (a, .inr (10, [.ref q1, .ref q2, .int 0, .ref q3, .ref q4, .int 0, .int 0, .int 0, .ref q5, .ref q6, .ref q7, .ref q8, .ref q9, .ref q10, .ref q11, .ref q12, .ref q13, .int 0, .int 0, .int 0, .int 0, .int 0, .int 0, .ref q14, .ref q15, .ref q16, .ref q17, .int 0, .ref q18, .ref q19, .ref q20, .ref q21])) ∧ L[n + 1]? = some (q1, .inl (G.2.2.1, 46, .inl (upd (upd (upd (upd (upd (upd (upd (upd (upd (fun _ => 0) 0 4) 1 2) 2 2) 3 2) 4 2) 5 2) 6 1) 7 3) 8 120))) ∧ L[n + 2]? = some (q2, .inl (G.2.2.1, 9, .inl (fun _ => 0))) ∧ L[n + 3]? = some (q3, .inl (G.2.2.1, 12, .inl (fun _ => 0))) ∧ L[n + 4]? = some (q4, .inl (G.2.2.1, 80, .inl (fun _ => 0))) ∧ L[n + 5]? = some (q5, .inl (G.2.2.1, 24, .inl (fun _ => 0))) ∧ L[n + 6]? = some (q6, .inl (G.2.2.1, 12, .inl (fun _ => 0))) ∧ L[n + 7]? = some (q7, .inl (G.2.2.1, 12, .inl (fun _ => 0))) ∧ L[n + 8]? = some (q8, .inl (G.2.2.1, 12, .inl (fun _ => 0))) ∧ L[n + 9]? = some (q9, .inl (G.2.2.1, 12, .inl (fun _ => 0))) ∧ L[n + 10]? = some (q10, .inl (G.2.2.1, 12, .inl (fun _ => 0))) ∧ L[n + 11]? = some (q11, .inl (G.2.2.1, 12, .inl (fun _ => 0))) ∧ L[n + 12]? = some (q12, .inl (G.2.2.1, 12, .inl (fun _ => 0))) ∧ L[n + 13]? = some (q13, .inl (G.2.2.1, 12, .inl (fun _ => 0))) ∧ L[n + 14]? = some (q14, .inl (G.2.2.1, 6, .inl (fun _ => 0))) ∧ L[n + 15]? = some (q15, .inl (G.2.2.1, 6, .inl (fun _ => 0))) ∧ L[n + 16]? = some (q16, .inl (G.2.2.1, 6, .inl (fun _ => 0))) ∧ L[n + 17]? = some (q17, .inl (G.2.2.1, 6, .inl (fun _ => 0))) ∧ L[n + 18]? = some (q18, .inl (G.2.2.1, 46, .inl (fun _ => 0))) ∧ L[n + 19]? = some (q19, .inl (G.2.2.1, 4, .inl (upd (upd (upd (upd (fun _ => 0) 0 (-1)) 1 (-1)) 2 (-1)) 3 (-1)))) ∧ L[n + 20]? = some (q20, .inl (G.2.2.1, 4, .inl (fun _ => 0))) ∧ L[n + 21]? = some (q21, .inl (G.2.2.1, 64, .inl (fun _ => 0)))
theorem modelAt.mono {G : td_G} {L L2 : va_W} {n a : Nat} (h : modelAt G L n a) (e : ∀ k, n ≤ k → k < n + 22 → L2[k]? = L[k]?) : modelAt G L2 n a := by
  obtain ⟨q1, q2, q3, q4, q5, q6, q7, q8, q9, q10, q11, q12, q13, q14, q15, q16, q17, q18, q19, q20, q21, z0, z1, z2, z3, z4, z5, z6, z7, z8, z9, z10, z11, z12, z13, z14, z15, z16, z17, z18, z19, z20, z21⟩ := h
  exact ⟨q1, q2, q3, q4, q5, q6, q7, q8, q9, q10, q11, q12, q13, q14, q15, q16, q17, q18, q19, q20, q21, (e _ (by omega) (by omega)).trans z0, (e _ (by omega) (by omega)).trans z1, (e _ (by omega) (by omega)).trans z2, (e _ (by omega) (by omega)).trans z3, (e _ (by omega) (by omega)).trans z4, (e _ (by omega) (by omega)).trans z5, (e _ (by omega) (by omega)).trans z6, (e _ (by omega) (by omega)).trans z7, (e _ (by omega) (by omega)).trans z8, (e _ (by omega) (by omega)).trans z9, (e _ (by omega) (by omega)).trans z10, (e _ (by omega) (by omega)).trans z11, (e _ (by omega) (by omega)).trans z12, (e _ (by omega) (by omega)).trans z13, (e _ (by omega) (by omega)).trans z14, (e _ (by omega) (by omega)).trans z15, (e _ (by omega) (by omega)).trans z16, (e _ (by omega) (by omega)).trans z17, (e _ (by omega) (by omega)).trans z18, (e _ (by omega) (by omega)).trans z19, (e _ (by omega) (by omega)).trans z20, (e _ (by omega) (by omega)).trans z21⟩
theorem modelAt.obj {G : td_G} {L : va_W} {n a : Nat} (h : modelAt G L n a) : ∃ vs, L[n]? = some (a, .inr (10, vs)) := by
  obtain ⟨q1, q2, q3, q4, q5, q6, q7, q8, q9, q10, q11, q12, q13, q14, q15, q16, q17, q18, q19, q20, q21, z0, z1, z2, z3, z4, z5, z6, z7, z8, z9, z10, z11, z12, z13, z14, z15, z16, z17, z18, z19, z20, z21⟩ := h
  exact ⟨_, z0⟩
set_option maxRecDepth 20000 in
set_option maxHeartbeats 4000000 in
theorem c_ini_model {G : td_G} {L : va_W} {n a : Nat} (hn : L.length = n + 1) (e0 : L[n]? = some (a, .inr (10, [.null, .null, .int 0, .null, .null, .int 0, .int 0, .int 0, .null, .null, .null, .null, .null, .null, .null, .null, .null, .int 0, .int 0, .int 0, .int 0, .int 0, .int 0, .null, .null, .null, .null, .int 0, .null, .null, .null, .null]))) : k_C G 1 21 409 mX10_init a L (fun L1 => L1.length = n + 22 ∧ (∀ k, k < n → L1[k]? = L[k]?) ∧ modelAt G L1 n a) := by
  refine k_entry rfl (Nat.le_of_ble_eq_true rfl) rfl ?_
  have keep : ∀ k, k < n → L[k]? = L[k]? := fun _ _ => rfl
  refine k_aload_n 0 dX10_init_0 rfl ?_
  refine k_obj (td_in 1076 (by decide +kernel) rfl) kw_oi kw_oc dX10_init_1 (Nat.le_of_ble_eq_true rfl) (Nat.le_of_ble_eq_true rfl) ?_
  refine k_aload_n 0 dX10_init_4 rfl ?_
  refine k_bipush (v := 46) dX10_init_5 (by decide) ?_
  refine k_newa (n := n + 1) (N := 46) hn kw_ai (by decide) (by decide) (by decide) (Nat.le_of_ble_eq_true rfl) (Nat.le_of_ble_eq_true rfl) dX10_init_7 (fun q1 L1 hn f1 g1 => ?_)
  have e0 : L1[n]? = some (a, .inr (10, [.null, .null, .int 0, .null, .null, .int 0, .int 0, .int 0, .null, .null, .null, .null, .null, .null, .null, .null, .null, .int 0, .int 0, .int 0, .int 0, .int 0, .int 0, .null, .null, .null, .null, .int 0, .null, .null, .null, .null])) := (f1 n (kz_0 n (by decide))).trans e0
  have keep : ∀ k, k < n → L1[k]? = L[k]? := fun k hk => (f1 k (kz_k 1 hk)).trans (keep k hk)
  have x1 : L1[n + 1]? = some (q1, .inl (G.2.2.1, 46, .inl (fun _ => 0))) := g1
  refine k_putF (n := n + 2) (q0 := n) (j := 0) (ty0 := tyX10) hn e0 (ci := 10) rfl rfl td_in_10 tyX10_ok nmX10 (by decide) rfl rfl (td_in 1077 (by decide +kernel) rfl) rfl rfl (Nat.le_of_ble_eq_true rfl) dX10_init_9 (fun L2 hn f2 g2 => ?_)
  have e0 : L2[n]? = some (a, .inr (10, [.ref q1, .null, .int 0, .null, .null, .int 0, .int 0, .int 0, .null, .null, .null, .null, .null, .null, .null, .null, .null, .int 0, .int 0, .int 0, .int 0, .int 0, .int 0, .null, .null, .null, .null, .int 0, .null, .null, .null, .null])) := g2
  have x1 := (f2 _ (kz_ne n (by decide))).trans x1
  have keep : ∀ k, k < n → L2[k]? = L[k]? := fun k hk => (f2 k (kz_nk hk)).trans (keep k hk)
  refine k_aload_n 0 dX10_init_12 rfl ?_
  refine k_bipush (v := 9) dX10_init_13 (by decide) ?_
  refine k_newa (n := n + 2) (N := 9) hn kw_ai (by decide) (by decide) (by decide) (Nat.le_of_ble_eq_true rfl) (Nat.le_of_ble_eq_true rfl) dX10_init_15 (fun q2 L3 hn f3 g3 => ?_)
  have e0 : L3[n]? = some (a, .inr (10, [.ref q1, .null, .int 0, .null, .null, .int 0, .int 0, .int 0, .null, .null, .null, .null, .null, .null, .null, .null, .null, .int 0, .int 0, .int 0, .int 0, .int 0, .int 0, .null, .null, .null, .null, .int 0, .null, .null, .null, .null])) := (f3 n (kz_0 n (by decide))).trans e0
  have x1 := (f3 _ (kz_a n (by decide))).trans x1
  have keep : ∀ k, k < n → L3[k]? = L[k]? := fun k hk => (f3 k (kz_k 2 hk)).trans (keep k hk)
  have x2 : L3[n + 2]? = some (q2, .inl (G.2.2.1, 9, .inl (fun _ => 0))) := g3
  refine k_putF (n := n + 3) (q0 := n) (j := 1) (ty0 := tyX10) hn e0 (ci := 10) rfl rfl td_in_10 tyX10_ok nmX10 (by decide) rfl rfl (td_in 1078 (by decide +kernel) rfl) rfl rfl (Nat.le_of_ble_eq_true rfl) dX10_init_17 (fun L4 hn f4 g4 => ?_)
  have e0 : L4[n]? = some (a, .inr (10, [.ref q1, .ref q2, .int 0, .null, .null, .int 0, .int 0, .int 0, .null, .null, .null, .null, .null, .null, .null, .null, .null, .int 0, .int 0, .int 0, .int 0, .int 0, .int 0, .null, .null, .null, .null, .int 0, .null, .null, .null, .null])) := g4
  have x1 := (f4 _ (kz_ne n (by decide))).trans x1
  have x2 := (f4 _ (kz_ne n (by decide))).trans x2
  have keep : ∀ k, k < n → L4[k]? = L[k]? := fun k hk => (f4 k (kz_nk hk)).trans (keep k hk)
  refine k_aload_n 0 dX10_init_20 rfl ?_
  refine k_bipush (v := 12) dX10_init_21 (by decide) ?_
  refine k_newa (n := n + 3) (N := 12) hn kw_ai (by decide) (by decide) (by decide) (Nat.le_of_ble_eq_true rfl) (Nat.le_of_ble_eq_true rfl) dX10_init_23 (fun q3 L5 hn f5 g5 => ?_)
  have e0 : L5[n]? = some (a, .inr (10, [.ref q1, .ref q2, .int 0, .null, .null, .int 0, .int 0, .int 0, .null, .null, .null, .null, .null, .null, .null, .null, .null, .int 0, .int 0, .int 0, .int 0, .int 0, .int 0, .null, .null, .null, .null, .int 0, .null, .null, .null, .null])) := (f5 n (kz_0 n (by decide))).trans e0
  have x1 := (f5 _ (kz_a n (by decide))).trans x1
  have x2 := (f5 _ (kz_a n (by decide))).trans x2
  have keep : ∀ k, k < n → L5[k]? = L[k]? := fun k hk => (f5 k (kz_k 3 hk)).trans (keep k hk)
  have x3 : L5[n + 3]? = some (q3, .inl (G.2.2.1, 12, .inl (fun _ => 0))) := g5
  refine k_putF (n := n + 4) (q0 := n) (j := 3) (ty0 := tyX10) hn e0 (ci := 10) rfl rfl td_in_10 tyX10_ok nmX10 (by decide) rfl rfl (td_in 1080 (by decide +kernel) rfl) rfl rfl (Nat.le_of_ble_eq_true rfl) dX10_init_25 (fun L6 hn f6 g6 => ?_)
  have e0 : L6[n]? = some (a, .inr (10, [.ref q1, .ref q2, .int 0, .ref q3, .null, .int 0, .int 0, .int 0, .null, .null, .null, .null, .null, .null, .null, .null, .null, .int 0, .int 0, .int 0, .int 0, .int 0, .int 0, .null, .null, .null, .null, .int 0, .null, .null, .null, .null])) := g6
  have x1 := (f6 _ (kz_ne n (by decide))).trans x1
  have x2 := (f6 _ (kz_ne n (by decide))).trans x2
  have x3 := (f6 _ (kz_ne n (by decide))).trans x3
  have keep : ∀ k, k < n → L6[k]? = L[k]? := fun k hk => (f6 k (kz_nk hk)).trans (keep k hk)
  refine k_aload_n 0 dX10_init_28 rfl ?_
  refine k_bipush (v := 80) dX10_init_29 (by decide) ?_
  refine k_newa (n := n + 4) (N := 80) hn kw_ai (by decide) (by decide) (by decide) (Nat.le_of_ble_eq_true rfl) (Nat.le_of_ble_eq_true rfl) dX10_init_31 (fun q4 L7 hn f7 g7 => ?_)
  have e0 : L7[n]? = some (a, .inr (10, [.ref q1, .ref q2, .int 0, .ref q3, .null, .int 0, .int 0, .int 0, .null, .null, .null, .null, .null, .null, .null, .null, .null, .int 0, .int 0, .int 0, .int 0, .int 0, .int 0, .null, .null, .null, .null, .int 0, .null, .null, .null, .null])) := (f7 n (kz_0 n (by decide))).trans e0
  have x1 := (f7 _ (kz_a n (by decide))).trans x1
  have x2 := (f7 _ (kz_a n (by decide))).trans x2
  have x3 := (f7 _ (kz_a n (by decide))).trans x3
  have keep : ∀ k, k < n → L7[k]? = L[k]? := fun k hk => (f7 k (kz_k 4 hk)).trans (keep k hk)
  have x4 : L7[n + 4]? = some (q4, .inl (G.2.2.1, 80, .inl (fun _ => 0))) := g7
  refine k_putF (n := n + 5) (q0 := n) (j := 4) (ty0 := tyX10) hn e0 (ci := 10) rfl rfl td_in_10 tyX10_ok nmX10 (by decide) rfl rfl (td_in 1081 (by decide +kernel) rfl) rfl rfl (Nat.le_of_ble_eq_true rfl) dX10_init_33 (fun L8 hn f8 g8 => ?_)
  have e0 : L8[n]? = some (a, .inr (10, [.ref q1, .ref q2, .int 0, .ref q3, .ref q4, .int 0, .int 0, .int 0, .null, .null, .null, .null, .null, .null, .null, .null, .null, .int 0, .int 0, .int 0, .int 0, .int 0, .int 0, .null, .null, .null, .null, .int 0, .null, .null, .null, .null])) := g8
  have x1 := (f8 _ (kz_ne n (by decide))).trans x1
  have x2 := (f8 _ (kz_ne n (by decide))).trans x2
  have x3 := (f8 _ (kz_ne n (by decide))).trans x3
  have x4 := (f8 _ (kz_ne n (by decide))).trans x4
  have keep : ∀ k, k < n → L8[k]? = L[k]? := fun k hk => (f8 k (kz_nk hk)).trans (keep k hk)
  refine k_aload_n 0 dX10_init_36 rfl ?_
  refine k_bipush (v := 24) dX10_init_37 (by decide) ?_
  refine k_newa (n := n + 5) (N := 24) hn kw_ai (by decide) (by decide) (by decide) (Nat.le_of_ble_eq_true rfl) (Nat.le_of_ble_eq_true rfl) dX10_init_39 (fun q5 L9 hn f9 g9 => ?_)
  have e0 : L9[n]? = some (a, .inr (10, [.ref q1, .ref q2, .int 0, .ref q3, .ref q4, .int 0, .int 0, .int 0, .null, .null, .null, .null, .null, .null, .null, .null, .null, .int 0, .int 0, .int 0, .int 0, .int 0, .int 0, .null, .null, .null, .null, .int 0, .null, .null, .null, .null])) := (f9 n (kz_0 n (by decide))).trans e0
  have x1 := (f9 _ (kz_a n (by decide))).trans x1
  have x2 := (f9 _ (kz_a n (by decide))).trans x2
  have x3 := (f9 _ (kz_a n (by decide))).trans x3
  have x4 := (f9 _ (kz_a n (by decide))).trans x4
  have keep : ∀ k, k < n → L9[k]? = L[k]? := fun k hk => (f9 k (kz_k 5 hk)).trans (keep k hk)
  have x5 : L9[n + 5]? = some (q5, .inl (G.2.2.1, 24, .inl (fun _ => 0))) := g9
  refine k_putF (n := n + 6) (q0 := n) (j := 8) (ty0 := tyX10) hn e0 (ci := 10) rfl rfl td_in_10 tyX10_ok nmX10 (by decide) rfl rfl (td_in 1085 (by decide +kernel) rfl) rfl rfl (Nat.le_of_ble_eq_true rfl) dX10_init_41 (fun L10 hn f10 g10 => ?_)
  have e0 : L10[n]? = some (a, .inr (10, [.ref q1, .ref q2, .int 0, .ref q3, .ref q4, .int 0, .int 0, .int 0, .ref q5, .null, .null, .null, .null, .null, .null, .null, .null, .int 0, .int 0, .int 0, .int 0, .int 0, .int 0, .null, .null, .null, .null, .int 0, .null, .null, .null, .null])) := g10
  have x1 := (f10 _ (kz_ne n (by decide))).trans x1
  have x2 := (f10 _ (kz_ne n (by decide))).trans x2
  have x3 := (f10 _ (kz_ne n (by decide))).trans x3
  have x4 := (f10 _ (kz_ne n (by decide))).trans x4
  have x5 := (f10 _ (kz_ne n (by decide))).trans x5
  have keep : ∀ k, k < n → L10[k]? = L[k]? := fun k hk => (f10 k (kz_nk hk)).trans (keep k hk)
  refine k_aload_n 0 dX10_init_44 rfl ?_
  refine k_bipush (v := 12) dX10_init_45 (by decide) ?_
  refine k_newa (n := n + 6) (N := 12) hn kw_ai (by decide) (by decide) (by decide) (Nat.le_of_ble_eq_true rfl) (Nat.le_of_ble_eq_true rfl) dX10_init_47 (fun q6 L11 hn f11 g11 => ?_)
  have e0 : L11[n]? = some (a, .inr (10, [.ref q1, .ref q2, .int 0, .ref q3, .ref q4, .int 0, .int 0, .int 0, .ref q5, .null, .null, .null, .null, .null, .null, .null, .null, .int 0, .int 0, .int 0, .int 0, .int 0, .int 0, .null, .null, .null, .null, .int 0, .null, .null, .null, .null])) := (f11 n (kz_0 n (by decide))).trans e0
  have x1 := (f11 _ (kz_a n (by decide))).trans x1
  have x2 := (f11 _ (kz_a n (by decide))).trans x2
  have x3 := (f11 _ (kz_a n (by decide))).trans x3
  have x4 := (f11 _ (kz_a n (by decide))).trans x4
  have x5 := (f11 _ (kz_a n (by decide))).trans x5
  have keep : ∀ k, k < n → L11[k]? = L[k]? := fun k hk => (f11 k (kz_k 6 hk)).trans (keep k hk)
  have x6 : L11[n + 6]? = some (q6, .inl (G.2.2.1, 12, .inl (fun _ => 0))) := g11
  refine k_putF (n := n + 7) (q0 := n) (j := 9) (ty0 := tyX10) hn e0 (ci := 10) rfl rfl td_in_10 tyX10_ok nmX10 (by decide) rfl rfl (td_in 1086 (by decide +kernel) rfl) rfl rfl (Nat.le_of_ble_eq_true rfl) dX10_init_49 (fun L12 hn f12 g12 => ?_)
  have e0 : L12[n]? = some (a, .inr (10, [.ref q1, .ref q2, .int 0, .ref q3, .ref q4, .int 0, .int 0, .int 0, .ref q5, .ref q6, .null, .null, .null, .null, .null, .null, .null, .int 0, .int 0, .int 0, .int 0, .int 0, .int 0, .null, .null, .null, .null, .int 0, .null, .null, .null, .null])) := g12
  have x1 := (f12 _ (kz_ne n (by decide))).trans x1
  have x2 := (f12 _ (kz_ne n (by decide))).trans x2
  have x3 := (f12 _ (kz_ne n (by decide))).trans x3
  have x4 := (f12 _ (kz_ne n (by decide))).trans x4
  have x5 := (f12 _ (kz_ne n (by decide))).trans x5
  have x6 := (f12 _ (kz_ne n (by decide))).trans x6
  have keep : ∀ k, k < n → L12[k]? = L[k]? := fun k hk => (f12 k (kz_nk hk)).trans (keep k hk)
  refine k_aload_n 0 dX10_init_52 rfl ?_
  refine k_bipush (v := 12) dX10_init_53 (by decide) ?_
  refine k_newa (n := n + 7) (N := 12) hn kw_ai (by decide) (by decide) (by decide) (Nat.le_of_ble_eq_true rfl) (Nat.le_of_ble_eq_true rfl) dX10_init_55 (fun q7 L13 hn f13 g13 => ?_)
  have e0 : L13[n]? = some (a, .inr (10, [.ref q1, .ref q2, .int 0, .ref q3, .ref q4, .int 0, .int 0, .int 0, .ref q5, .ref q6, .null, .null, .null, .null, .null, .null, .null, .int 0, .int 0, .int 0, .int 0, .int 0, .int 0, .null, .null, .null, .null, .int 0, .null, .null, .null, .null])) := (f13 n (kz_0 n (by decide))).trans e0
  have x1 := (f13 _ (kz_a n (by decide))).trans x1
  have x2 := (f13 _ (kz_a n (by decide))).trans x2
  have x3 := (f13 _ (kz_a n (by decide))).trans x3
  have x4 := (f13 _ (kz_a n (by decide))).trans x4
  have x5 := (f13 _ (kz_a n (by decide))).trans x5
  have x6 := (f13 _ (kz_a n (by decide))).trans x6
  have keep : ∀ k, k < n → L13[k]? = L[k]? := fun k hk => (f13 k (kz_k 7 hk)).trans (keep k hk)
  have x7 : L13[n + 7]? = some (q7, .inl (G.2.2.1, 12, .inl (fun _ => 0))) := g13
  refine k_putF (n := n + 8) (q0 := n) (j := 10) (ty0 := tyX10) hn e0 (ci := 10) rfl rfl td_in_10 tyX10_ok nmX10 (by decide) rfl rfl (td_in 1087 (by decide +kernel) rfl) rfl rfl (Nat.le_of_ble_eq_true rfl) dX10_init_57 (fun L14 hn f14 g14 => ?_)
  have e0 : L14[n]? = some (a, .inr (10, [.ref q1, .ref q2, .int 0, .ref q3, .ref q4, .int 0, .int 0, .int 0, .ref q5, .ref q6, .ref q7, .null, .null, .null, .null, .null, .null, .int 0, .int 0, .int 0, .int 0, .int 0, .int 0, .null, .null, .null, .null, .int 0, .null, .null, .null, .null])) := g14
  have x1 := (f14 _ (kz_ne n (by decide))).trans x1
  have x2 := (f14 _ (kz_ne n (by decide))).trans x2
  have x3 := (f14 _ (kz_ne n (by decide))).trans x3
  have x4 := (f14 _ (kz_ne n (by decide))).trans x4
  have x5 := (f14 _ (kz_ne n (by decide))).trans x5
  have x6 := (f14 _ (kz_ne n (by decide))).trans x6
  have x7 := (f14 _ (kz_ne n (by decide))).trans x7
  have keep : ∀ k, k < n → L14[k]? = L[k]? := fun k hk => (f14 k (kz_nk hk)).trans (keep k hk)
  refine k_aload_n 0 dX10_init_60 rfl ?_
  refine k_bipush (v := 12) dX10_init_61 (by decide) ?_
  refine k_newa (n := n + 8) (N := 12) hn kw_ai (by decide) (by decide) (by decide) (Nat.le_of_ble_eq_true rfl) (Nat.le_of_ble_eq_true rfl) dX10_init_63 (fun q8 L15 hn f15 g15 => ?_)
  have e0 : L15[n]? = some (a, .inr (10, [.ref q1, .ref q2, .int 0, .ref q3, .ref q4, .int 0, .int 0, .int 0, .ref q5, .ref q6, .ref q7, .null, .null, .null, .null, .null, .null, .int 0, .int 0, .int 0, .int 0, .int 0, .int 0, .null, .null, .null, .null, .int 0, .null, .null, .null, .null])) := (f15 n (kz_0 n (by decide))).trans e0
  have x1 := (f15 _ (kz_a n (by decide))).trans x1
  have x2 := (f15 _ (kz_a n (by decide))).trans x2
  have x3 := (f15 _ (kz_a n (by decide))).trans x3
  have x4 := (f15 _ (kz_a n (by decide))).trans x4
  have x5 := (f15 _ (kz_a n (by decide))).trans x5
  have x6 := (f15 _ (kz_a n (by decide))).trans x6
  have x7 := (f15 _ (kz_a n (by decide))).trans x7
  have keep : ∀ k, k < n → L15[k]? = L[k]? := fun k hk => (f15 k (kz_k 8 hk)).trans (keep k hk)
  have x8 : L15[n + 8]? = some (q8, .inl (G.2.2.1, 12, .inl (fun _ => 0))) := g15
  refine k_putF (n := n + 9) (q0 := n) (j := 11) (ty0 := tyX10) hn e0 (ci := 10) rfl rfl td_in_10 tyX10_ok nmX10 (by decide) rfl rfl (td_in 1088 (by decide +kernel) rfl) rfl rfl (Nat.le_of_ble_eq_true rfl) dX10_init_65 (fun L16 hn f16 g16 => ?_)
  have e0 : L16[n]? = some (a, .inr (10, [.ref q1, .ref q2, .int 0, .ref q3, .ref q4, .int 0, .int 0, .int 0, .ref q5, .ref q6, .ref q7, .ref q8, .null, .null, .null, .null, .null, .int 0, .int 0, .int 0, .int 0, .int 0, .int 0, .null, .null, .null, .null, .int 0, .null, .null, .null, .null])) := g16
  have x1 := (f16 _ (kz_ne n (by decide))).trans x1
  have x2 := (f16 _ (kz_ne n (by decide))).trans x2
  have x3 := (f16 _ (kz_ne n (by decide))).trans x3
  have x4 := (f16 _ (kz_ne n (by decide))).trans x4
  have x5 := (f16 _ (kz_ne n (by decide))).trans x5
  have x6 := (f16 _ (kz_ne n (by decide))).trans x6
  have x7 := (f16 _ (kz_ne n (by decide))).trans x7
  have x8 := (f16 _ (kz_ne n (by decide))).trans x8
  have keep : ∀ k, k < n → L16[k]? = L[k]? := fun k hk => (f16 k (kz_nk hk)).trans (keep k hk)
  refine k_aload_n 0 dX10_init_68 rfl ?_
  refine k_bipush (v := 12) dX10_init_69 (by decide) ?_
  refine k_newa (n := n + 9) (N := 12) hn kw_ai (by decide) (by decide) (by decide) (Nat.le_of_ble_eq_true rfl) (Nat.le_of_ble_eq_true rfl) dX10_init_71 (fun q9 L17 hn f17 g17 => ?_)
  have e0 : L17[n]? = some (a, .inr (10, [.ref q1, .ref q2, .int 0, .ref q3, .ref q4, .int 0, .int 0, .int 0, .ref q5, .ref q6, .ref q7, .ref q8, .null, .null, .null, .null, .null, .int 0, .int 0, .int 0, .int 0, .int 0, .int 0, .null, .null, .null, .null, .int 0, .null, .null, .null, .null])) := (f17 n (kz_0 n (by decide))).trans e0
  have x1 := (f17 _ (kz_a n (by decide))).trans x1
  have x2 := (f17 _ (kz_a n (by decide))).trans x2
  have x3 := (f17 _ (kz_a n (by decide))).trans x3
  have x4 := (f17 _ (kz_a n (by decide))).trans x4
  have x5 := (f17 _ (kz_a n (by decide))).trans x5
  have x6 := (f17 _ (kz_a n (by decide))).trans x6
  have x7 := (f17 _ (kz_a n (by decide))).trans x7
  have x8 := (f17 _ (kz_a n (by decide))).trans x8
  have keep : ∀ k, k < n → L17[k]? = L[k]? := fun k hk => (f17 k (kz_k 9 hk)).trans (keep k hk)
  have x9 : L17[n + 9]? = some (q9, .inl (G.2.2.1, 12, .inl (fun _ => 0))) := g17
  refine k_putF (n := n + 10) (q0 := n) (j := 12) (ty0 := tyX10) hn e0 (ci := 10) rfl rfl td_in_10 tyX10_ok nmX10 (by decide) rfl rfl (td_in 1089 (by decide +kernel) rfl) rfl rfl (Nat.le_of_ble_eq_true rfl) dX10_init_73 (fun L18 hn f18 g18 => ?_)
  have e0 : L18[n]? = some (a, .inr (10, [.ref q1, .ref q2, .int 0, .ref q3, .ref q4, .int 0, .int 0, .int 0, .ref q5, .ref q6, .ref q7, .ref q8, .ref q9, .null, .null, .null, .null, .int 0, .int 0, .int 0, .int 0, .int 0, .int 0, .null, .null, .null, .null, .int 0, .null, .null, .null, .null])) := g18
  have x1 := (f18 _ (kz_ne n (by decide))).trans x1
  have x2 := (f18 _ (kz_ne n (by decide))).trans x2
  have x3 := (f18 _ (kz_ne n (by decide))).trans x3
  have x4 := (f18 _ (kz_ne n (by decide))).trans x4
  have x5 := (f18 _ (kz_ne n (by decide))).trans x5
  have x6 := (f18 _ (kz_ne n (by decide))).trans x6
  have x7 := (f18 _ (kz_ne n (by decide))).trans x7
  have x8 := (f18 _ (kz_ne n (by decide))).trans x8
  have x9 := (f18 _ (kz_ne n (by decide))).trans x9
  have keep : ∀ k, k < n → L18[k]? = L[k]? := fun k hk => (f18 k (kz_nk hk)).trans (keep k hk)
  refine k_aload_n 0 dX10_init_76 rfl ?_
  refine k_bipush (v := 12) dX10_init_77 (by decide) ?_
  refine k_newa (n := n + 10) (N := 12) hn kw_ai (by decide) (by decide) (by decide) (Nat.le_of_ble_eq_true rfl) (Nat.le_of_ble_eq_true rfl) dX10_init_79 (fun q10 L19 hn f19 g19 => ?_)
  have e0 : L19[n]? = some (a, .inr (10, [.ref q1, .ref q2, .int 0, .ref q3, .ref q4, .int 0, .int 0, .int 0, .ref q5, .ref q6, .ref q7, .ref q8, .ref q9, .null, .null, .null, .null, .int 0, .int 0, .int 0, .int 0, .int 0, .int 0, .null, .null, .null, .null, .int 0, .null, .null, .null, .null])) := (f19 n (kz_0 n (by decide))).trans e0
  have x1 := (f19 _ (kz_a n (by decide))).trans x1
  have x2 := (f19 _ (kz_a n (by decide))).trans x2
  have x3 := (f19 _ (kz_a n (by decide))).trans x3
  have x4 := (f19 _ (kz_a n (by decide))).trans x4
  have x5 := (f19 _ (kz_a n (by decide))).trans x5
  have x6 := (f19 _ (kz_a n (by decide))).trans x6
  have x7 := (f19 _ (kz_a n (by decide))).trans x7
  have x8 := (f19 _ (kz_a n (by decide))).trans x8
  have x9 := (f19 _ (kz_a n (by decide))).trans x9
  have keep : ∀ k, k < n → L19[k]? = L[k]? := fun k hk => (f19 k (kz_k 10 hk)).trans (keep k hk)
  have x10 : L19[n + 10]? = some (q10, .inl (G.2.2.1, 12, .inl (fun _ => 0))) := g19
  refine k_putF (n := n + 11) (q0 := n) (j := 13) (ty0 := tyX10) hn e0 (ci := 10) rfl rfl td_in_10 tyX10_ok nmX10 (by decide) rfl rfl (td_in 1090 (by decide +kernel) rfl) rfl rfl (Nat.le_of_ble_eq_true rfl) dX10_init_81 (fun L20 hn f20 g20 => ?_)
  have e0 : L20[n]? = some (a, .inr (10, [.ref q1, .ref q2, .int 0, .ref q3, .ref q4, .int 0, .int 0, .int 0, .ref q5, .ref q6, .ref q7, .ref q8, .ref q9, .ref q10, .null, .null, .null, .int 0, .int 0, .int 0, .int 0, .int 0, .int 0, .null, .null, .null, .null, .int 0, .null, .null, .null, .null])) := g20
  have x1 := (f20 _ (kz_ne n (by decide))).trans x1
  have x2 := (f20 _ (kz_ne n (by decide))).trans x2
  have x3 := (f20 _ (kz_ne n (by decide))).trans x3
  have x4 := (f20 _ (kz_ne n (by decide))).trans x4
  have x5 := (f20 _ (kz_ne n (by decide))).trans x5
  have x6 := (f20 _ (kz_ne n (by decide))).trans x6
  have x7 := (f20 _ (kz_ne n (by decide))).trans x7
  have x8 := (f20 _ (kz_ne n (by decide))).trans x8
  have x9 := (f20 _ (kz_ne n (by decide))).trans x9
  have x10 := (f20 _ (kz_ne n (by decide))).trans x10
  have keep : ∀ k, k < n → L20[k]? = L[k]? := fun k hk => (f20 k (kz_nk hk)).trans (keep k hk)
  refine k_aload_n 0 dX10_init_84 rfl ?_
  refine k_bipush (v := 12) dX10_init_85 (by decide) ?_
  refine k_newa (n := n + 11) (N := 12) hn kw_ai (by decide) (by decide) (by decide) (Nat.le_of_ble_eq_true rfl) (Nat.le_of_ble_eq_true rfl) dX10_init_87 (fun q11 L21 hn f21 g21 => ?_)
  have e0 : L21[n]? = some (a, .inr (10, [.ref q1, .ref q2, .int 0, .ref q3, .ref q4, .int 0, .int 0, .int 0, .ref q5, .ref q6, .ref q7, .ref q8, .ref q9, .ref q10, .null, .null, .null, .int 0, .int 0, .int 0, .int 0, .int 0, .int 0, .null, .null, .null, .null, .int 0, .null, .null, .null, .null])) := (f21 n (kz_0 n (by decide))).trans e0
  have x1 := (f21 _ (kz_a n (by decide))).trans x1
  have x2 := (f21 _ (kz_a n (by decide))).trans x2
  have x3 := (f21 _ (kz_a n (by decide))).trans x3
  have x4 := (f21 _ (kz_a n (by decide))).trans x4
  have x5 := (f21 _ (kz_a n (by decide))).trans x5
  have x6 := (f21 _ (kz_a n (by decide))).trans x6
  have x7 := (f21 _ (kz_a n (by decide))).trans x7
  have x8 := (f21 _ (kz_a n (by decide))).trans x8
  have x9 := (f21 _ (kz_a n (by decide))).trans x9
  have x10 := (f21 _ (kz_a n (by decide))).trans x10
  have keep : ∀ k, k < n → L21[k]? = L[k]? := fun k hk => (f21 k (kz_k 11 hk)).trans (keep k hk)
  have x11 : L21[n + 11]? = some (q11, .inl (G.2.2.1, 12, .inl (fun _ => 0))) := g21
  refine k_putF (n := n + 12) (q0 := n) (j := 14) (ty0 := tyX10) hn e0 (ci := 10) rfl rfl td_in_10 tyX10_ok nmX10 (by decide) rfl rfl (td_in 1091 (by decide +kernel) rfl) rfl rfl (Nat.le_of_ble_eq_true rfl) dX10_init_89 (fun L22 hn f22 g22 => ?_)
  have e0 : L22[n]? = some (a, .inr (10, [.ref q1, .ref q2, .int 0, .ref q3, .ref q4, .int 0, .int 0, .int 0, .ref q5, .ref q6, .ref q7, .ref q8, .ref q9, .ref q10, .ref q11, .null, .null, .int 0, .int 0, .int 0, .int 0, .int 0, .int 0, .null, .null, .null, .null, .int 0, .null, .null, .null, .null])) := g22
  have x1 := (f22 _ (kz_ne n (by decide))).trans x1
  have x2 := (f22 _ (kz_ne n (by decide))).trans x2
  have x3 := (f22 _ (kz_ne n (by decide))).trans x3
  have x4 := (f22 _ (kz_ne n (by decide))).trans x4
  have x5 := (f22 _ (kz_ne n (by decide))).trans x5
  have x6 := (f22 _ (kz_ne n (by decide))).trans x6
  have x7 := (f22 _ (kz_ne n (by decide))).trans x7
  have x8 := (f22 _ (kz_ne n (by decide))).trans x8
  have x9 := (f22 _ (kz_ne n (by decide))).trans x9
  have x10 := (f22 _ (kz_ne n (by decide))).trans x10
  have x11 := (f22 _ (kz_ne n (by decide))).trans x11
  have keep : ∀ k, k < n → L22[k]? = L[k]? := fun k hk => (f22 k (kz_nk hk)).trans (keep k hk)
  refine k_aload_n 0 dX10_init_92 rfl ?_
  refine k_bipush (v := 12) dX10_init_93 (by decide) ?_
  refine k_newa (n := n + 12) (N := 12) hn kw_ai (by decide) (by decide) (by decide) (Nat.le_of_ble_eq_true rfl) (Nat.le_of_ble_eq_true rfl) dX10_init_95 (fun q12 L23 hn f23 g23 => ?_)
  have e0 : L23[n]? = some (a, .inr (10, [.ref q1, .ref q2, .int 0, .ref q3, .ref q4, .int 0, .int 0, .int 0, .ref q5, .ref q6, .ref q7, .ref q8, .ref q9, .ref q10, .ref q11, .null, .null, .int 0, .int 0, .int 0, .int 0, .int 0, .int 0, .null, .null, .null, .null, .int 0, .null, .null, .null, .null])) := (f23 n (kz_0 n (by decide))).trans e0
  have x1 := (f23 _ (kz_a n (by decide))).trans x1
  have x2 := (f23 _ (kz_a n (by decide))).trans x2
  have x3 := (f23 _ (kz_a n (by decide))).trans x3
  have x4 := (f23 _ (kz_a n (by decide))).trans x4
  have x5 := (f23 _ (kz_a n (by decide))).trans x5
  have x6 := (f23 _ (kz_a n (by decide))).trans x6
  have x7 := (f23 _ (kz_a n (by decide))).trans x7
  have x8 := (f23 _ (kz_a n (by decide))).trans x8
  have x9 := (f23 _ (kz_a n (by decide))).trans x9
  have x10 := (f23 _ (kz_a n (by decide))).trans x10
  have x11 := (f23 _ (kz_a n (by decide))).trans x11
  have keep : ∀ k, k < n → L23[k]? = L[k]? := fun k hk => (f23 k (kz_k 12 hk)).trans (keep k hk)
  have x12 : L23[n + 12]? = some (q12, .inl (G.2.2.1, 12, .inl (fun _ => 0))) := g23
  refine k_putF (n := n + 13) (q0 := n) (j := 15) (ty0 := tyX10) hn e0 (ci := 10) rfl rfl td_in_10 tyX10_ok nmX10 (by decide) rfl rfl (td_in 1092 (by decide +kernel) rfl) rfl rfl (Nat.le_of_ble_eq_true rfl) dX10_init_97 (fun L24 hn f24 g24 => ?_)
  have e0 : L24[n]? = some (a, .inr (10, [.ref q1, .ref q2, .int 0, .ref q3, .ref q4, .int 0, .int 0, .int 0, .ref q5, .ref q6, .ref q7, .ref q8, .ref q9, .ref q10, .ref q11, .ref q12, .null, .int 0, .int 0, .int 0, .int 0, .int 0, .int 0, .null, .null, .null, .null, .int 0, .null, .null, .null, .null])) := g24
  have x1 := (f24 _ (kz_ne n (by decide))).trans x1
  have x2 := (f24 _ (kz_ne n (by decide))).trans x2
  have x3 := (f24 _ (kz_ne n (by decide))).trans x3
  have x4 := (f24 _ (kz_ne n (by decide))).trans x4
  have x5 := (f24 _ (kz_ne n (by decide))).trans x5
  have x6 := (f24 _ (kz_ne n (by decide))).trans x6
  have x7 := (f24 _ (kz_ne n (by decide))).trans x7
  have x8 := (f24 _ (kz_ne n (by decide))).trans x8
  have x9 := (f24 _ (kz_ne n (by decide))).trans x9
  have x10 := (f24 _ (kz_ne n (by decide))).trans x10
  have x11 := (f24 _ (kz_ne n (by decide))).trans x11
  have x12 := (f24 _ (kz_ne n (by decide))).trans x12
  have keep : ∀ k, k < n → L24[k]? = L[k]? := fun k hk => (f24 k (kz_nk hk)).trans (keep k hk)
  refine k_aload_n 0 dX10_init_100 rfl ?_
  refine k_bipush (v := 12) dX10_init_101 (by decide) ?_
  refine k_newa (n := n + 13) (N := 12) hn kw_ai (by decide) (by decide) (by decide) (Nat.le_of_ble_eq_true rfl) (Nat.le_of_ble_eq_true rfl) dX10_init_103 (fun q13 L25 hn f25 g25 => ?_)
  have e0 : L25[n]? = some (a, .inr (10, [.ref q1, .ref q2, .int 0, .ref q3, .ref q4, .int 0, .int 0, .int 0, .ref q5, .ref q6, .ref q7, .ref q8, .ref q9, .ref q10, .ref q11, .ref q12, .null, .int 0, .int 0, .int 0, .int 0, .int 0, .int 0, .null, .null, .null, .null, .int 0, .null, .null, .null, .null])) := (f25 n (kz_0 n (by decide))).trans e0
  have x1 := (f25 _ (kz_a n (by decide))).trans x1
  have x2 := (f25 _ (kz_a n (by decide))).trans x2
  have x3 := (f25 _ (kz_a n (by decide))).trans x3
  have x4 := (f25 _ (kz_a n (by decide))).trans x4
  have x5 := (f25 _ (kz_a n (by decide))).trans x5
  have x6 := (f25 _ (kz_a n (by decide))).trans x6
  have x7 := (f25 _ (kz_a n (by decide))).trans x7
  have x8 := (f25 _ (kz_a n (by decide))).trans x8
  have x9 := (f25 _ (kz_a n (by decide))).trans x9
  have x10 := (f25 _ (kz_a n (by decide))).trans x10
  have x11 := (f25 _ (kz_a n (by decide))).trans x11
  have x12 := (f25 _ (kz_a n (by decide))).trans x12
  have keep : ∀ k, k < n → L25[k]? = L[k]? := fun k hk => (f25 k (kz_k 13 hk)).trans (keep k hk)
  have x13 : L25[n + 13]? = some (q13, .inl (G.2.2.1, 12, .inl (fun _ => 0))) := g25
  refine k_putF (n := n + 14) (q0 := n) (j := 16) (ty0 := tyX10) hn e0 (ci := 10) rfl rfl td_in_10 tyX10_ok nmX10 (by decide) rfl rfl (td_in 1093 (by decide +kernel) rfl) rfl rfl (Nat.le_of_ble_eq_true rfl) dX10_init_105 (fun L26 hn f26 g26 => ?_)
  have e0 : L26[n]? = some (a, .inr (10, [.ref q1, .ref q2, .int 0, .ref q3, .ref q4, .int 0, .int 0, .int 0, .ref q5, .ref q6, .ref q7, .ref q8, .ref q9, .ref q10, .ref q11, .ref q12, .ref q13, .int 0, .int 0, .int 0, .int 0, .int 0, .int 0, .null, .null, .null, .null, .int 0, .null, .null, .null, .null])) := g26
  have x1 := (f26 _ (kz_ne n (by decide))).trans x1
  have x2 := (f26 _ (kz_ne n (by decide))).trans x2
  have x3 := (f26 _ (kz_ne n (by decide))).trans x3
  have x4 := (f26 _ (kz_ne n (by decide))).trans x4
  have x5 := (f26 _ (kz_ne n (by decide))).trans x5
  have x6 := (f26 _ (kz_ne n (by decide))).trans x6
  have x7 := (f26 _ (kz_ne n (by decide))).trans x7
  have x8 := (f26 _ (kz_ne n (by decide))).trans x8
  have x9 := (f26 _ (kz_ne n (by decide))).trans x9
  have x10 := (f26 _ (kz_ne n (by decide))).trans x10
  have x11 := (f26 _ (kz_ne n (by decide))).trans x11
  have x12 := (f26 _ (kz_ne n (by decide))).trans x12
  have x13 := (f26 _ (kz_ne n (by decide))).trans x13
  have keep : ∀ k, k < n → L26[k]? = L[k]? := fun k hk => (f26 k (kz_nk hk)).trans (keep k hk)
  refine k_aload_n 0 dX10_init_108 rfl ?_
  refine k_bipush (v := 6) dX10_init_109 (by decide) ?_
  refine k_newa (n := n + 14) (N := 6) hn kw_ai (by decide) (by decide) (by decide) (Nat.le_of_ble_eq_true rfl) (Nat.le_of_ble_eq_true rfl) dX10_init_111 (fun q14 L27 hn f27 g27 => ?_)
  have e0 : L27[n]? = some (a, .inr (10, [.ref q1, .ref q2, .int 0, .ref q3, .ref q4, .int 0, .int 0, .int 0, .ref q5, .ref q6, .ref q7, .ref q8, .ref q9, .ref q10, .ref q11, .ref q12, .ref q13, .int 0, .int 0, .int 0, .int 0, .int 0, .int 0, .null, .null, .null, .null, .int 0, .null, .null, .null, .null])) := (f27 n (kz_0 n (by decide))).trans e0
  have x1 := (f27 _ (kz_a n (by decide))).trans x1
  have x2 := (f27 _ (kz_a n (by decide))).trans x2
  have x3 := (f27 _ (kz_a n (by decide))).trans x3
  have x4 := (f27 _ (kz_a n (by decide))).trans x4
  have x5 := (f27 _ (kz_a n (by decide))).trans x5
  have x6 := (f27 _ (kz_a n (by decide))).trans x6
  have x7 := (f27 _ (kz_a n (by decide))).trans x7
  have x8 := (f27 _ (kz_a n (by decide))).trans x8
  have x9 := (f27 _ (kz_a n (by decide))).trans x9
  have x10 := (f27 _ (kz_a n (by decide))).trans x10
  have x11 := (f27 _ (kz_a n (by decide))).trans x11
  have x12 := (f27 _ (kz_a n (by decide))).trans x12
  have x13 := (f27 _ (kz_a n (by decide))).trans x13
  have keep : ∀ k, k < n → L27[k]? = L[k]? := fun k hk => (f27 k (kz_k 14 hk)).trans (keep k hk)
  have x14 : L27[n + 14]? = some (q14, .inl (G.2.2.1, 6, .inl (fun _ => 0))) := g27
  refine k_putF (n := n + 15) (q0 := n) (j := 23) (ty0 := tyX10) hn e0 (ci := 10) rfl rfl td_in_10 tyX10_ok nmX10 (by decide) rfl rfl (td_in 1100 (by decide +kernel) rfl) rfl rfl (Nat.le_of_ble_eq_true rfl) dX10_init_113 (fun L28 hn f28 g28 => ?_)
  have e0 : L28[n]? = some (a, .inr (10, [.ref q1, .ref q2, .int 0, .ref q3, .ref q4, .int 0, .int 0, .int 0, .ref q5, .ref q6, .ref q7, .ref q8, .ref q9, .ref q10, .ref q11, .ref q12, .ref q13, .int 0, .int 0, .int 0, .int 0, .int 0, .int 0, .ref q14, .null, .null, .null, .int 0, .null, .null, .null, .null])) := g28
  have x1 := (f28 _ (kz_ne n (by decide))).trans x1
  have x2 := (f28 _ (kz_ne n (by decide))).trans x2
  have x3 := (f28 _ (kz_ne n (by decide))).trans x3
  have x4 := (f28 _ (kz_ne n (by decide))).trans x4
  have x5 := (f28 _ (kz_ne n (by decide))).trans x5
  have x6 := (f28 _ (kz_ne n (by decide))).trans x6
  have x7 := (f28 _ (kz_ne n (by decide))).trans x7
  have x8 := (f28 _ (kz_ne n (by decide))).trans x8
  have x9 := (f28 _ (kz_ne n (by decide))).trans x9
  have x10 := (f28 _ (kz_ne n (by decide))).trans x10
  have x11 := (f28 _ (kz_ne n (by decide))).trans x11
  have x12 := (f28 _ (kz_ne n (by decide))).trans x12
  have x13 := (f28 _ (kz_ne n (by decide))).trans x13
  have x14 := (f28 _ (kz_ne n (by decide))).trans x14
  have keep : ∀ k, k < n → L28[k]? = L[k]? := fun k hk => (f28 k (kz_nk hk)).trans (keep k hk)
  refine k_aload_n 0 dX10_init_116 rfl ?_
  refine k_bipush (v := 6) dX10_init_117 (by decide) ?_
  refine k_newa (n := n + 15) (N := 6) hn kw_ai (by decide) (by decide) (by decide) (Nat.le_of_ble_eq_true rfl) (Nat.le_of_ble_eq_true rfl) dX10_init_119 (fun q15 L29 hn f29 g29 => ?_)
  have e0 : L29[n]? = some (a, .inr (10, [.ref q1, .ref q2, .int 0, .ref q3, .ref q4, .int 0, .int 0, .int 0, .ref q5, .ref q6, .ref q7, .ref q8, .ref q9, .ref q10, .ref q11, .ref q12, .ref q13, .int 0, .int 0, .int 0, .int 0, .int 0, .int 0, .ref q14, .null, .null, .null, .int 0, .null, .null, .null, .null])) := (f29 n (kz_0 n (by decide))).trans e0
  have x1 := (f29 _ (kz_a n (by decide))).trans x1
  have x2 := (f29 _ (kz_a n (by decide))).trans x2
  have x3 := (f29 _ (kz_a n (by decide))).trans x3
  have x4 := (f29 _ (kz_a n (by decide))).trans x4
  have x5 := (f29 _ (kz_a n (by decide))).trans x5
  have x6 := (f29 _ (kz_a n (by decide))).trans x6
  have x7 := (f29 _ (kz_a n (by decide))).trans x7
  have x8 := (f29 _ (kz_a n (by decide))).trans x8
  have x9 := (f29 _ (kz_a n (by decide))).trans x9
  have x10 := (f29 _ (kz_a n (by decide))).trans x10
  have x11 := (f29 _ (kz_a n (by decide))).trans x11
  have x12 := (f29 _ (kz_a n (by decide))).trans x12
  have x13 := (f29 _ (kz_a n (by decide))).trans x13
  have x14 := (f29 _ (kz_a n (by decide))).trans x14
  have keep : ∀ k, k < n → L29[k]? = L[k]? := fun k hk => (f29 k (kz_k 15 hk)).trans (keep k hk)
  have x15 : L29[n + 15]? = some (q15, .inl (G.2.2.1, 6, .inl (fun _ => 0))) := g29
  refine k_putF (n := n + 16) (q0 := n) (j := 24) (ty0 := tyX10) hn e0 (ci := 10) rfl rfl td_in_10 tyX10_ok nmX10 (by decide) rfl rfl (td_in 1101 (by decide +kernel) rfl) rfl rfl (Nat.le_of_ble_eq_true rfl) dX10_init_121 (fun L30 hn f30 g30 => ?_)
  have e0 : L30[n]? = some (a, .inr (10, [.ref q1, .ref q2, .int 0, .ref q3, .ref q4, .int 0, .int 0, .int 0, .ref q5, .ref q6, .ref q7, .ref q8, .ref q9, .ref q10, .ref q11, .ref q12, .ref q13, .int 0, .int 0, .int 0, .int 0, .int 0, .int 0, .ref q14, .ref q15, .null, .null, .int 0, .null, .null, .null, .null])) := g30
  have x1 := (f30 _ (kz_ne n (by decide))).trans x1
  have x2 := (f30 _ (kz_ne n (by decide))).trans x2
  have x3 := (f30 _ (kz_ne n (by decide))).trans x3
  have x4 := (f30 _ (kz_ne n (by decide))).trans x4
  have x5 := (f30 _ (kz_ne n (by decide))).trans x5
  have x6 := (f30 _ (kz_ne n (by decide))).trans x6
  have x7 := (f30 _ (kz_ne n (by decide))).trans x7
  have x8 := (f30 _ (kz_ne n (by decide))).trans x8
  have x9 := (f30 _ (kz_ne n (by decide))).trans x9
  have x10 := (f30 _ (kz_ne n (by decide))).trans x10
  have x11 := (f30 _ (kz_ne n (by decide))).trans x11
  have x12 := (f30 _ (kz_ne n (by decide))).trans x12
  have x13 := (f30 _ (kz_ne n (by decide))).trans x13
  have x14 := (f30 _ (kz_ne n (by decide))).trans x14
  have x15 := (f30 _ (kz_ne n (by decide))).trans x15
  have keep : ∀ k, k < n → L30[k]? = L[k]? := fun k hk => (f30 k (kz_nk hk)).trans (keep k hk)
  refine k_aload_n 0 dX10_init_124 rfl ?_
  refine k_bipush (v := 6) dX10_init_125 (by decide) ?_
  refine k_newa (n := n + 16) (N := 6) hn kw_ai (by decide) (by decide) (by decide) (Nat.le_of_ble_eq_true rfl) (Nat.le_of_ble_eq_true rfl) dX10_init_127 (fun q16 L31 hn f31 g31 => ?_)
  have e0 : L31[n]? = some (a, .inr (10, [.ref q1, .ref q2, .int 0, .ref q3, .ref q4, .int 0, .int 0, .int 0, .ref q5, .ref q6, .ref q7, .ref q8, .ref q9, .ref q10, .ref q11, .ref q12, .ref q13, .int 0, .int 0, .int 0, .int 0, .int 0, .int 0, .ref q14, .ref q15, .null, .null, .int 0, .null, .null, .null, .null])) := (f31 n (kz_0 n (by decide))).trans e0
  have x1 := (f31 _ (kz_a n (by decide))).trans x1
  have x2 := (f31 _ (kz_a n (by decide))).trans x2
  have x3 := (f31 _ (kz_a n (by decide))).trans x3
  have x4 := (f31 _ (kz_a n (by decide))).trans x4
  have x5 := (f31 _ (kz_a n (by decide))).trans x5
  have x6 := (f31 _ (kz_a n (by decide))).trans x6
  have x7 := (f31 _ (kz_a n (by decide))).trans x7
  have x8 := (f31 _ (kz_a n (by decide))).trans x8
  have x9 := (f31 _ (kz_a n (by decide))).trans x9
  have x10 := (f31 _ (kz_a n (by decide))).trans x10
  have x11 := (f31 _ (kz_a n (by decide))).trans x11
  have x12 := (f31 _ (kz_a n (by decide))).trans x12
  have x13 := (f31 _ (kz_a n (by decide))).trans x13
  have x14 := (f31 _ (kz_a n (by decide))).trans x14
  have x15 := (f31 _ (kz_a n (by decide))).trans x15
  have keep : ∀ k, k < n → L31[k]? = L[k]? := fun k hk => (f31 k (kz_k 16 hk)).trans (keep k hk)
  have x16 : L31[n + 16]? = some (q16, .inl (G.2.2.1, 6, .inl (fun _ => 0))) := g31
  refine k_putF (n := n + 17) (q0 := n) (j := 25) (ty0 := tyX10) hn e0 (ci := 10) rfl rfl td_in_10 tyX10_ok nmX10 (by decide) rfl rfl (td_in 1102 (by decide +kernel) rfl) rfl rfl (Nat.le_of_ble_eq_true rfl) dX10_init_129 (fun L32 hn f32 g32 => ?_)
  have e0 : L32[n]? = some (a, .inr (10, [.ref q1, .ref q2, .int 0, .ref q3, .ref q4, .int 0, .int 0, .int 0, .ref q5, .ref q6, .ref q7, .ref q8, .ref q9, .ref q10, .ref q11, .ref q12, .ref q13, .int 0, .int 0, .int 0, .int 0, .int 0, .int 0, .ref q14, .ref q15, .ref q16, .null, .int 0, .null, .null, .null, .null])) := g32
  have x1 := (f32 _ (kz_ne n (by decide))).trans x1
  have x2 := (f32 _ (kz_ne n (by decide))).trans x2
  have x3 := (f32 _ (kz_ne n (by decide))).trans x3
  have x4 := (f32 _ (kz_ne n (by decide))).trans x4
  have x5 := (f32 _ (kz_ne n (by decide))).trans x5
  have x6 := (f32 _ (kz_ne n (by decide))).trans x6
  have x7 := (f32 _ (kz_ne n (by decide))).trans x7
  have x8 := (f32 _ (kz_ne n (by decide))).trans x8
  have x9 := (f32 _ (kz_ne n (by decide))).trans x9
  have x10 := (f32 _ (kz_ne n (by decide))).trans x10
  have x11 := (f32 _ (kz_ne n (by decide))).trans x11
  have x12 := (f32 _ (kz_ne n (by decide))).trans x12
  have x13 := (f32 _ (kz_ne n (by decide))).trans x13
  have x14 := (f32 _ (kz_ne n (by decide))).trans x14
  have x15 := (f32 _ (kz_ne n (by decide))).trans x15
  have x16 := (f32 _ (kz_ne n (by decide))).trans x16
  have keep : ∀ k, k < n → L32[k]? = L[k]? := fun k hk => (f32 k (kz_nk hk)).trans (keep k hk)
  refine k_aload_n 0 dX10_init_132 rfl ?_
  refine k_bipush (v := 6) dX10_init_133 (by decide) ?_
  refine k_newa (n := n + 17) (N := 6) hn kw_ai (by decide) (by decide) (by decide) (Nat.le_of_ble_eq_true rfl) (Nat.le_of_ble_eq_true rfl) dX10_init_135 (fun q17 L33 hn f33 g33 => ?_)
  have e0 : L33[n]? = some (a, .inr (10, [.ref q1, .ref q2, .int 0, .ref q3, .ref q4, .int 0, .int 0, .int 0, .ref q5, .ref q6, .ref q7, .ref q8, .ref q9, .ref q10, .ref q11, .ref q12, .ref q13, .int 0, .int 0, .int 0, .int 0, .int 0, .int 0, .ref q14, .ref q15, .ref q16, .null, .int 0, .null, .null, .null, .null])) := (f33 n (kz_0 n (by decide))).trans e0
  have x1 := (f33 _ (kz_a n (by decide))).trans x1
  have x2 := (f33 _ (kz_a n (by decide))).trans x2
  have x3 := (f33 _ (kz_a n (by decide))).trans x3
  have x4 := (f33 _ (kz_a n (by decide))).trans x4
  have x5 := (f33 _ (kz_a n (by decide))).trans x5
  have x6 := (f33 _ (kz_a n (by decide))).trans x6
  have x7 := (f33 _ (kz_a n (by decide))).trans x7
  have x8 := (f33 _ (kz_a n (by decide))).trans x8
  have x9 := (f33 _ (kz_a n (by decide))).trans x9
  have x10 := (f33 _ (kz_a n (by decide))).trans x10
  have x11 := (f33 _ (kz_a n (by decide))).trans x11
  have x12 := (f33 _ (kz_a n (by decide))).trans x12
  have x13 := (f33 _ (kz_a n (by decide))).trans x13
  have x14 := (f33 _ (kz_a n (by decide))).trans x14
  have x15 := (f33 _ (kz_a n (by decide))).trans x15
  have x16 := (f33 _ (kz_a n (by decide))).trans x16
  have keep : ∀ k, k < n → L33[k]? = L[k]? := fun k hk => (f33 k (kz_k 17 hk)).trans (keep k hk)
  have x17 : L33[n + 17]? = some (q17, .inl (G.2.2.1, 6, .inl (fun _ => 0))) := g33
  refine k_putF (n := n + 18) (q0 := n) (j := 26) (ty0 := tyX10) hn e0 (ci := 10) rfl rfl td_in_10 tyX10_ok nmX10 (by decide) rfl rfl (td_in 1103 (by decide +kernel) rfl) rfl rfl (Nat.le_of_ble_eq_true rfl) dX10_init_137 (fun L34 hn f34 g34 => ?_)
  have e0 : L34[n]? = some (a, .inr (10, [.ref q1, .ref q2, .int 0, .ref q3, .ref q4, .int 0, .int 0, .int 0, .ref q5, .ref q6, .ref q7, .ref q8, .ref q9, .ref q10, .ref q11, .ref q12, .ref q13, .int 0, .int 0, .int 0, .int 0, .int 0, .int 0, .ref q14, .ref q15, .ref q16, .ref q17, .int 0, .null, .null, .null, .null])) := g34
  have x1 := (f34 _ (kz_ne n (by decide))).trans x1
  have x2 := (f34 _ (kz_ne n (by decide))).trans x2
  have x3 := (f34 _ (kz_ne n (by decide))).trans x3
  have x4 := (f34 _ (kz_ne n (by decide))).trans x4
  have x5 := (f34 _ (kz_ne n (by decide))).trans x5
  have x6 := (f34 _ (kz_ne n (by decide))).trans x6
  have x7 := (f34 _ (kz_ne n (by decide))).trans x7
  have x8 := (f34 _ (kz_ne n (by decide))).trans x8
  have x9 := (f34 _ (kz_ne n (by decide))).trans x9
  have x10 := (f34 _ (kz_ne n (by decide))).trans x10
  have x11 := (f34 _ (kz_ne n (by decide))).trans x11
  have x12 := (f34 _ (kz_ne n (by decide))).trans x12
  have x13 := (f34 _ (kz_ne n (by decide))).trans x13
  have x14 := (f34 _ (kz_ne n (by decide))).trans x14
  have x15 := (f34 _ (kz_ne n (by decide))).trans x15
  have x16 := (f34 _ (kz_ne n (by decide))).trans x16
  have x17 := (f34 _ (kz_ne n (by decide))).trans x17
  have keep : ∀ k, k < n → L34[k]? = L[k]? := fun k hk => (f34 k (kz_nk hk)).trans (keep k hk)
  refine k_aload_n 0 dX10_init_140 rfl ?_
  refine k_bipush (v := 46) dX10_init_141 (by decide) ?_
  refine k_newa (n := n + 18) (N := 46) hn kw_ai (by decide) (by decide) (by decide) (Nat.le_of_ble_eq_true rfl) (Nat.le_of_ble_eq_true rfl) dX10_init_143 (fun q18 L35 hn f35 g35 => ?_)
  have e0 : L35[n]? = some (a, .inr (10, [.ref q1, .ref q2, .int 0, .ref q3, .ref q4, .int 0, .int 0, .int 0, .ref q5, .ref q6, .ref q7, .ref q8, .ref q9, .ref q10, .ref q11, .ref q12, .ref q13, .int 0, .int 0, .int 0, .int 0, .int 0, .int 0, .ref q14, .ref q15, .ref q16, .ref q17, .int 0, .null, .null, .null, .null])) := (f35 n (kz_0 n (by decide))).trans e0
  have x1 := (f35 _ (kz_a n (by decide))).trans x1
  have x2 := (f35 _ (kz_a n (by decide))).trans x2
  have x3 := (f35 _ (kz_a n (by decide))).trans x3
  have x4 := (f35 _ (kz_a n (by decide))).trans x4
  have x5 := (f35 _ (kz_a n (by decide))).trans x5
  have x6 := (f35 _ (kz_a n (by decide))).trans x6
  have x7 := (f35 _ (kz_a n (by decide))).trans x7
  have x8 := (f35 _ (kz_a n (by decide))).trans x8
  have x9 := (f35 _ (kz_a n (by decide))).trans x9
  have x10 := (f35 _ (kz_a n (by decide))).trans x10
  have x11 := (f35 _ (kz_a n (by decide))).trans x11
  have x12 := (f35 _ (kz_a n (by decide))).trans x12
  have x13 := (f35 _ (kz_a n (by decide))).trans x13
  have x14 := (f35 _ (kz_a n (by decide))).trans x14
  have x15 := (f35 _ (kz_a n (by decide))).trans x15
  have x16 := (f35 _ (kz_a n (by decide))).trans x16
  have x17 := (f35 _ (kz_a n (by decide))).trans x17
  have keep : ∀ k, k < n → L35[k]? = L[k]? := fun k hk => (f35 k (kz_k 18 hk)).trans (keep k hk)
  have x18 : L35[n + 18]? = some (q18, .inl (G.2.2.1, 46, .inl (fun _ => 0))) := g35
  refine k_putF (n := n + 19) (q0 := n) (j := 28) (ty0 := tyX10) hn e0 (ci := 10) rfl rfl td_in_10 tyX10_ok nmX10 (by decide) rfl rfl (td_in 1105 (by decide +kernel) rfl) rfl rfl (Nat.le_of_ble_eq_true rfl) dX10_init_145 (fun L36 hn f36 g36 => ?_)
  have e0 : L36[n]? = some (a, .inr (10, [.ref q1, .ref q2, .int 0, .ref q3, .ref q4, .int 0, .int 0, .int 0, .ref q5, .ref q6, .ref q7, .ref q8, .ref q9, .ref q10, .ref q11, .ref q12, .ref q13, .int 0, .int 0, .int 0, .int 0, .int 0, .int 0, .ref q14, .ref q15, .ref q16, .ref q17, .int 0, .ref q18, .null, .null, .null])) := g36
  have x1 := (f36 _ (kz_ne n (by decide))).trans x1
  have x2 := (f36 _ (kz_ne n (by decide))).trans x2
  have x3 := (f36 _ (kz_ne n (by decide))).trans x3
  have x4 := (f36 _ (kz_ne n (by decide))).trans x4
  have x5 := (f36 _ (kz_ne n (by decide))).trans x5
  have x6 := (f36 _ (kz_ne n (by decide))).trans x6
  have x7 := (f36 _ (kz_ne n (by decide))).trans x7
  have x8 := (f36 _ (kz_ne n (by decide))).trans x8
  have x9 := (f36 _ (kz_ne n (by decide))).trans x9
  have x10 := (f36 _ (kz_ne n (by decide))).trans x10
  have x11 := (f36 _ (kz_ne n (by decide))).trans x11
  have x12 := (f36 _ (kz_ne n (by decide))).trans x12
  have x13 := (f36 _ (kz_ne n (by decide))).trans x13
  have x14 := (f36 _ (kz_ne n (by decide))).trans x14
  have x15 := (f36 _ (kz_ne n (by decide))).trans x15
  have x16 := (f36 _ (kz_ne n (by decide))).trans x16
  have x17 := (f36 _ (kz_ne n (by decide))).trans x17
  have x18 := (f36 _ (kz_ne n (by decide))).trans x18
  have keep : ∀ k, k < n → L36[k]? = L[k]? := fun k hk => (f36 k (kz_nk hk)).trans (keep k hk)
  refine k_aload_n 0 dX10_init_148 rfl ?_
  refine k_iconst (v := 4) dX10_init_149 (by decide) ?_
  refine k_newa (n := n + 19) (N := 4) hn kw_ai (by decide) (by decide) (by decide) (Nat.le_of_ble_eq_true rfl) (Nat.le_of_ble_eq_true rfl) dX10_init_150 (fun q19 L37 hn f37 g37 => ?_)
  have e0 : L37[n]? = some (a, .inr (10, [.ref q1, .ref q2, .int 0, .ref q3, .ref q4, .int 0, .int 0, .int 0, .ref q5, .ref q6, .ref q7, .ref q8, .ref q9, .ref q10, .ref q11, .ref q12, .ref q13, .int 0, .int 0, .int 0, .int 0, .int 0, .int 0, .ref q14, .ref q15, .ref q16, .ref q17, .int 0, .ref q18, .null, .null, .null])) := (f37 n (kz_0 n (by decide))).trans e0
  have x1 := (f37 _ (kz_a n (by decide))).trans x1
  have x2 := (f37 _ (kz_a n (by decide))).trans x2
  have x3 := (f37 _ (kz_a n (by decide))).trans x3
  have x4 := (f37 _ (kz_a n (by decide))).trans x4
  have x5 := (f37 _ (kz_a n (by decide))).trans x5
  have x6 := (f37 _ (kz_a n (by decide))).trans x6
  have x7 := (f37 _ (kz_a n (by decide))).trans x7
  have x8 := (f37 _ (kz_a n (by decide))).trans x8
  have x9 := (f37 _ (kz_a n (by decide))).trans x9
  have x10 := (f37 _ (kz_a n (by decide))).trans x10
  have x11 := (f37 _ (kz_a n (by decide))).trans x11
  have x12 := (f37 _ (kz_a n (by decide))).trans x12
  have x13 := (f37 _ (kz_a n (by decide))).trans x13
  have x14 := (f37 _ (kz_a n (by decide))).trans x14
  have x15 := (f37 _ (kz_a n (by decide))).trans x15
  have x16 := (f37 _ (kz_a n (by decide))).trans x16
  have x17 := (f37 _ (kz_a n (by decide))).trans x17
  have x18 := (f37 _ (kz_a n (by decide))).trans x18
  have keep : ∀ k, k < n → L37[k]? = L[k]? := fun k hk => (f37 k (kz_k 19 hk)).trans (keep k hk)
  have x19 : L37[n + 19]? = some (q19, .inl (G.2.2.1, 4, .inl (fun _ => 0))) := g37
  refine k_putF (n := n + 20) (q0 := n) (j := 29) (ty0 := tyX10) hn e0 (ci := 10) rfl rfl td_in_10 tyX10_ok nmX10 (by decide) rfl rfl (td_in 1106 (by decide +kernel) rfl) rfl rfl (Nat.le_of_ble_eq_true rfl) dX10_init_152 (fun L38 hn f38 g38 => ?_)
  have e0 : L38[n]? = some (a, .inr (10, [.ref q1, .ref q2, .int 0, .ref q3, .ref q4, .int 0, .int 0, .int 0, .ref q5, .ref q6, .ref q7, .ref q8, .ref q9, .ref q10, .ref q11, .ref q12, .ref q13, .int 0, .int 0, .int 0, .int 0, .int 0, .int 0, .ref q14, .ref q15, .ref q16, .ref q17, .int 0, .ref q18, .ref q19, .null, .null])) := g38
  have x1 := (f38 _ (kz_ne n (by decide))).trans x1
  have x2 := (f38 _ (kz_ne n (by decide))).trans x2
  have x3 := (f38 _ (kz_ne n (by decide))).trans x3
  have x4 := (f38 _ (kz_ne n (by decide))).trans x4
  have x5 := (f38 _ (kz_ne n (by decide))).trans x5
  have x6 := (f38 _ (kz_ne n (by decide))).trans x6
  have x7 := (f38 _ (kz_ne n (by decide))).trans x7
  have x8 := (f38 _ (kz_ne n (by decide))).trans x8
  have x9 := (f38 _ (kz_ne n (by decide))).trans x9
  have x10 := (f38 _ (kz_ne n (by decide))).trans x10
  have x11 := (f38 _ (kz_ne n (by decide))).trans x11
  have x12 := (f38 _ (kz_ne n (by decide))).trans x12
  have x13 := (f38 _ (kz_ne n (by decide))).trans x13
  have x14 := (f38 _ (kz_ne n (by decide))).trans x14
  have x15 := (f38 _ (kz_ne n (by decide))).trans x15
  have x16 := (f38 _ (kz_ne n (by decide))).trans x16
  have x17 := (f38 _ (kz_ne n (by decide))).trans x17
  have x18 := (f38 _ (kz_ne n (by decide))).trans x18
  have x19 := (f38 _ (kz_ne n (by decide))).trans x19
  have keep : ∀ k, k < n → L38[k]? = L[k]? := fun k hk => (f38 k (kz_nk hk)).trans (keep k hk)
  refine k_aload_n 0 dX10_init_155 rfl ?_
  refine k_iconst (v := 4) dX10_init_156 (by decide) ?_
  refine k_newa (n := n + 20) (N := 4) hn kw_ai (by decide) (by decide) (by decide) (Nat.le_of_ble_eq_true rfl) (Nat.le_of_ble_eq_true rfl) dX10_init_157 (fun q20 L39 hn f39 g39 => ?_)
  have e0 : L39[n]? = some (a, .inr (10, [.ref q1, .ref q2, .int 0, .ref q3, .ref q4, .int 0, .int 0, .int 0, .ref q5, .ref q6, .ref q7, .ref q8, .ref q9, .ref q10, .ref q11, .ref q12, .ref q13, .int 0, .int 0, .int 0, .int 0, .int 0, .int 0, .ref q14, .ref q15, .ref q16, .ref q17, .int 0, .ref q18, .ref q19, .null, .null])) := (f39 n (kz_0 n (by decide))).trans e0
  have x1 := (f39 _ (kz_a n (by decide))).trans x1
  have x2 := (f39 _ (kz_a n (by decide))).trans x2
  have x3 := (f39 _ (kz_a n (by decide))).trans x3
  have x4 := (f39 _ (kz_a n (by decide))).trans x4
  have x5 := (f39 _ (kz_a n (by decide))).trans x5
  have x6 := (f39 _ (kz_a n (by decide))).trans x6
  have x7 := (f39 _ (kz_a n (by decide))).trans x7
  have x8 := (f39 _ (kz_a n (by decide))).trans x8
  have x9 := (f39 _ (kz_a n (by decide))).trans x9
  have x10 := (f39 _ (kz_a n (by decide))).trans x10
  have x11 := (f39 _ (kz_a n (by decide))).trans x11
  have x12 := (f39 _ (kz_a n (by decide))).trans x12
  have x13 := (f39 _ (kz_a n (by decide))).trans x13
  have x14 := (f39 _ (kz_a n (by decide))).trans x14
  have x15 := (f39 _ (kz_a n (by decide))).trans x15
  have x16 := (f39 _ (kz_a n (by decide))).trans x16
  have x17 := (f39 _ (kz_a n (by decide))).trans x17
  have x18 := (f39 _ (kz_a n (by decide))).trans x18
  have x19 := (f39 _ (kz_a n (by decide))).trans x19
  have keep : ∀ k, k < n → L39[k]? = L[k]? := fun k hk => (f39 k (kz_k 20 hk)).trans (keep k hk)
  have x20 : L39[n + 20]? = some (q20, .inl (G.2.2.1, 4, .inl (fun _ => 0))) := g39
  refine k_putF (n := n + 21) (q0 := n) (j := 30) (ty0 := tyX10) hn e0 (ci := 10) rfl rfl td_in_10 tyX10_ok nmX10 (by decide) rfl rfl (td_in 1107 (by decide +kernel) rfl) rfl rfl (Nat.le_of_ble_eq_true rfl) dX10_init_159 (fun L40 hn f40 g40 => ?_)
  have e0 : L40[n]? = some (a, .inr (10, [.ref q1, .ref q2, .int 0, .ref q3, .ref q4, .int 0, .int 0, .int 0, .ref q5, .ref q6, .ref q7, .ref q8, .ref q9, .ref q10, .ref q11, .ref q12, .ref q13, .int 0, .int 0, .int 0, .int 0, .int 0, .int 0, .ref q14, .ref q15, .ref q16, .ref q17, .int 0, .ref q18, .ref q19, .ref q20, .null])) := g40
  have x1 := (f40 _ (kz_ne n (by decide))).trans x1
  have x2 := (f40 _ (kz_ne n (by decide))).trans x2
  have x3 := (f40 _ (kz_ne n (by decide))).trans x3
  have x4 := (f40 _ (kz_ne n (by decide))).trans x4
  have x5 := (f40 _ (kz_ne n (by decide))).trans x5
  have x6 := (f40 _ (kz_ne n (by decide))).trans x6
  have x7 := (f40 _ (kz_ne n (by decide))).trans x7
  have x8 := (f40 _ (kz_ne n (by decide))).trans x8
  have x9 := (f40 _ (kz_ne n (by decide))).trans x9
  have x10 := (f40 _ (kz_ne n (by decide))).trans x10
  have x11 := (f40 _ (kz_ne n (by decide))).trans x11
  have x12 := (f40 _ (kz_ne n (by decide))).trans x12
  have x13 := (f40 _ (kz_ne n (by decide))).trans x13
  have x14 := (f40 _ (kz_ne n (by decide))).trans x14
  have x15 := (f40 _ (kz_ne n (by decide))).trans x15
  have x16 := (f40 _ (kz_ne n (by decide))).trans x16
  have x17 := (f40 _ (kz_ne n (by decide))).trans x17
  have x18 := (f40 _ (kz_ne n (by decide))).trans x18
  have x19 := (f40 _ (kz_ne n (by decide))).trans x19
  have x20 := (f40 _ (kz_ne n (by decide))).trans x20
  have keep : ∀ k, k < n → L40[k]? = L[k]? := fun k hk => (f40 k (kz_nk hk)).trans (keep k hk)
  refine k_aload_n 0 dX10_init_162 rfl ?_
  refine k_bipush (v := 64) dX10_init_163 (by decide) ?_
  refine k_newa (n := n + 21) (N := 64) hn kw_ai (by decide) (by decide) (by decide) (Nat.le_of_ble_eq_true rfl) (Nat.le_of_ble_eq_true rfl) dX10_init_165 (fun q21 L41 hn f41 g41 => ?_)
  have e0 : L41[n]? = some (a, .inr (10, [.ref q1, .ref q2, .int 0, .ref q3, .ref q4, .int 0, .int 0, .int 0, .ref q5, .ref q6, .ref q7, .ref q8, .ref q9, .ref q10, .ref q11, .ref q12, .ref q13, .int 0, .int 0, .int 0, .int 0, .int 0, .int 0, .ref q14, .ref q15, .ref q16, .ref q17, .int 0, .ref q18, .ref q19, .ref q20, .null])) := (f41 n (kz_0 n (by decide))).trans e0
  have x1 := (f41 _ (kz_a n (by decide))).trans x1
  have x2 := (f41 _ (kz_a n (by decide))).trans x2
  have x3 := (f41 _ (kz_a n (by decide))).trans x3
  have x4 := (f41 _ (kz_a n (by decide))).trans x4
  have x5 := (f41 _ (kz_a n (by decide))).trans x5
  have x6 := (f41 _ (kz_a n (by decide))).trans x6
  have x7 := (f41 _ (kz_a n (by decide))).trans x7
  have x8 := (f41 _ (kz_a n (by decide))).trans x8
  have x9 := (f41 _ (kz_a n (by decide))).trans x9
  have x10 := (f41 _ (kz_a n (by decide))).trans x10
  have x11 := (f41 _ (kz_a n (by decide))).trans x11
  have x12 := (f41 _ (kz_a n (by decide))).trans x12
  have x13 := (f41 _ (kz_a n (by decide))).trans x13
  have x14 := (f41 _ (kz_a n (by decide))).trans x14
  have x15 := (f41 _ (kz_a n (by decide))).trans x15
  have x16 := (f41 _ (kz_a n (by decide))).trans x16
  have x17 := (f41 _ (kz_a n (by decide))).trans x17
  have x18 := (f41 _ (kz_a n (by decide))).trans x18
  have x19 := (f41 _ (kz_a n (by decide))).trans x19
  have x20 := (f41 _ (kz_a n (by decide))).trans x20
  have keep : ∀ k, k < n → L41[k]? = L[k]? := fun k hk => (f41 k (kz_k 21 hk)).trans (keep k hk)
  have x21 : L41[n + 21]? = some (q21, .inl (G.2.2.1, 64, .inl (fun _ => 0))) := g41
  refine k_putF (n := n + 22) (q0 := n) (j := 31) (ty0 := tyX10) hn e0 (ci := 10) rfl rfl td_in_10 tyX10_ok nmX10 (by decide) rfl rfl (td_in 1108 (by decide +kernel) rfl) rfl rfl (Nat.le_of_ble_eq_true rfl) dX10_init_167 (fun L42 hn f42 g42 => ?_)
  have e0 : L42[n]? = some (a, .inr (10, [.ref q1, .ref q2, .int 0, .ref q3, .ref q4, .int 0, .int 0, .int 0, .ref q5, .ref q6, .ref q7, .ref q8, .ref q9, .ref q10, .ref q11, .ref q12, .ref q13, .int 0, .int 0, .int 0, .int 0, .int 0, .int 0, .ref q14, .ref q15, .ref q16, .ref q17, .int 0, .ref q18, .ref q19, .ref q20, .ref q21])) := g42
  have x1 := (f42 _ (kz_ne n (by decide))).trans x1
  have x2 := (f42 _ (kz_ne n (by decide))).trans x2
  have x3 := (f42 _ (kz_ne n (by decide))).trans x3
  have x4 := (f42 _ (kz_ne n (by decide))).trans x4
  have x5 := (f42 _ (kz_ne n (by decide))).trans x5
  have x6 := (f42 _ (kz_ne n (by decide))).trans x6
  have x7 := (f42 _ (kz_ne n (by decide))).trans x7
  have x8 := (f42 _ (kz_ne n (by decide))).trans x8
  have x9 := (f42 _ (kz_ne n (by decide))).trans x9
  have x10 := (f42 _ (kz_ne n (by decide))).trans x10
  have x11 := (f42 _ (kz_ne n (by decide))).trans x11
  have x12 := (f42 _ (kz_ne n (by decide))).trans x12
  have x13 := (f42 _ (kz_ne n (by decide))).trans x13
  have x14 := (f42 _ (kz_ne n (by decide))).trans x14
  have x15 := (f42 _ (kz_ne n (by decide))).trans x15
  have x16 := (f42 _ (kz_ne n (by decide))).trans x16
  have x17 := (f42 _ (kz_ne n (by decide))).trans x17
  have x18 := (f42 _ (kz_ne n (by decide))).trans x18
  have x19 := (f42 _ (kz_ne n (by decide))).trans x19
  have x20 := (f42 _ (kz_ne n (by decide))).trans x20
  have x21 := (f42 _ (kz_ne n (by decide))).trans x21
  have keep : ∀ k, k < n → L42[k]? = L[k]? := fun k hk => (f42 k (kz_nk hk)).trans (keep k hk)
  refine k_iconst (v := 0) dX10_init_170 (by decide) ?_
  refine k_istore_n (lv2 := [(0, .ref a), (1, .int 0)]) dX10_init_171 (by decide) rfl ?_
  refine k_iload_n 1 dX10_init_172 rfl ?_
  refine k_iconst (v := 4) dX10_init_173 (by decide) ?_
  refine k_icmp_ge (tgt := 190) dX10_init_174 (by decide) (fun z => absurd z (by decide)) (fun _ => ?_)
  refine k_aload_n 0 dX10_init_177 rfl ?_
  refine k_get (q0 := n) (j := 29) e0 (ci := 10) rfl td_in_10 (by decide) rfl (td_in 1106 (by decide +kernel) rfl) rfl dX10_init_178 ?_
  refine k_iload_n 1 dX10_init_181 rfl ?_
  refine k_iconst (v := (-1)) dX10_init_182 (by decide) ?_
  refine k_iast (n := n + 22) (q0 := n + 19) hn x19 (by unfold vp_in; decide) dX10_init_183 (fun L43 hn f43 g43 => ?_)
  have e0 : L43[n]? = some (a, .inr (10, [.ref q1, .ref q2, .int 0, .ref q3, .ref q4, .int 0, .int 0, .int 0, .ref q5, .ref q6, .ref q7, .ref q8, .ref q9, .ref q10, .ref q11, .ref q12, .ref q13, .int 0, .int 0, .int 0, .int 0, .int 0, .int 0, .ref q14, .ref q15, .ref q16, .ref q17, .int 0, .ref q18, .ref q19, .ref q20, .ref q21])) := (f43 n (kz_n0 n (by decide))).trans e0
  have x1 := (f43 _ (kz_nn n (by decide))).trans x1
  have x2 := (f43 _ (kz_nn n (by decide))).trans x2
  have x3 := (f43 _ (kz_nn n (by decide))).trans x3
  have x4 := (f43 _ (kz_nn n (by decide))).trans x4
  have x5 := (f43 _ (kz_nn n (by decide))).trans x5
  have x6 := (f43 _ (kz_nn n (by decide))).trans x6
  have x7 := (f43 _ (kz_nn n (by decide))).trans x7
  have x8 := (f43 _ (kz_nn n (by decide))).trans x8
  have x9 := (f43 _ (kz_nn n (by decide))).trans x9
  have x10 := (f43 _ (kz_nn n (by decide))).trans x10
  have x11 := (f43 _ (kz_nn n (by decide))).trans x11
  have x12 := (f43 _ (kz_nn n (by decide))).trans x12
  have x13 := (f43 _ (kz_nn n (by decide))).trans x13
  have x14 := (f43 _ (kz_nn n (by decide))).trans x14
  have x15 := (f43 _ (kz_nn n (by decide))).trans x15
  have x16 := (f43 _ (kz_nn n (by decide))).trans x16
  have x17 := (f43 _ (kz_nn n (by decide))).trans x17
  have x18 := (f43 _ (kz_nn n (by decide))).trans x18
  have x20 := (f43 _ (kz_nn n (by decide))).trans x20
  have x21 := (f43 _ (kz_nn n (by decide))).trans x21
  have x19 : L43[n + 19]? = some (q19, .inl (G.2.2.1, 4, .inl (upd (fun _ => 0) 0 (-1)))) := g43
  have keep : ∀ k, k < n → L43[k]? = L[k]? := fun k hk => (f43 k (kz_nk2 19 hk)).trans (keep k hk)
  refine k_iinc 1 (v := 1) (lv2 := [(0, .ref a), (1, .int 1)]) dX10_init_184 rfl (by decide) (by decide) rfl ?_
  refine k_goto (tgt := 172) dX10_init_187 (by decide) ?_
  refine k_iload_n 1 dX10_init_172 rfl ?_
  refine k_iconst (v := 4) dX10_init_173 (by decide) ?_
  refine k_icmp_ge (tgt := 190) dX10_init_174 (by decide) (fun z => absurd z (by decide)) (fun _ => ?_)
  refine k_aload_n 0 dX10_init_177 rfl ?_
  refine k_get (q0 := n) (j := 29) e0 (ci := 10) rfl td_in_10 (by decide) rfl (td_in 1106 (by decide +kernel) rfl) rfl dX10_init_178 ?_
  refine k_iload_n 1 dX10_init_181 rfl ?_
  refine k_iconst (v := (-1)) dX10_init_182 (by decide) ?_
  refine k_iast (n := n + 22) (q0 := n + 19) hn x19 (by unfold vp_in; decide) dX10_init_183 (fun L44 hn f44 g44 => ?_)
  have e0 : L44[n]? = some (a, .inr (10, [.ref q1, .ref q2, .int 0, .ref q3, .ref q4, .int 0, .int 0, .int 0, .ref q5, .ref q6, .ref q7, .ref q8, .ref q9, .ref q10, .ref q11, .ref q12, .ref q13, .int 0, .int 0, .int 0, .int 0, .int 0, .int 0, .ref q14, .ref q15, .ref q16, .ref q17, .int 0, .ref q18, .ref q19, .ref q20, .ref q21])) := (f44 n (kz_n0 n (by decide))).trans e0
  have x1 := (f44 _ (kz_nn n (by decide))).trans x1
  have x2 := (f44 _ (kz_nn n (by decide))).trans x2
  have x3 := (f44 _ (kz_nn n (by decide))).trans x3
  have x4 := (f44 _ (kz_nn n (by decide))).trans x4
  have x5 := (f44 _ (kz_nn n (by decide))).trans x5
  have x6 := (f44 _ (kz_nn n (by decide))).trans x6
  have x7 := (f44 _ (kz_nn n (by decide))).trans x7
  have x8 := (f44 _ (kz_nn n (by decide))).trans x8
  have x9 := (f44 _ (kz_nn n (by decide))).trans x9
  have x10 := (f44 _ (kz_nn n (by decide))).trans x10
  have x11 := (f44 _ (kz_nn n (by decide))).trans x11
  have x12 := (f44 _ (kz_nn n (by decide))).trans x12
  have x13 := (f44 _ (kz_nn n (by decide))).trans x13
  have x14 := (f44 _ (kz_nn n (by decide))).trans x14
  have x15 := (f44 _ (kz_nn n (by decide))).trans x15
  have x16 := (f44 _ (kz_nn n (by decide))).trans x16
  have x17 := (f44 _ (kz_nn n (by decide))).trans x17
  have x18 := (f44 _ (kz_nn n (by decide))).trans x18
  have x20 := (f44 _ (kz_nn n (by decide))).trans x20
  have x21 := (f44 _ (kz_nn n (by decide))).trans x21
  have x19 : L44[n + 19]? = some (q19, .inl (G.2.2.1, 4, .inl (upd (upd (fun _ => 0) 0 (-1)) 1 (-1)))) := g44
  have keep : ∀ k, k < n → L44[k]? = L[k]? := fun k hk => (f44 k (kz_nk2 19 hk)).trans (keep k hk)
  refine k_iinc 1 (v := 2) (lv2 := [(0, .ref a), (1, .int 2)]) dX10_init_184 rfl (by decide) (by decide) rfl ?_
  refine k_goto (tgt := 172) dX10_init_187 (by decide) ?_
  refine k_iload_n 1 dX10_init_172 rfl ?_
  refine k_iconst (v := 4) dX10_init_173 (by decide) ?_
  refine k_icmp_ge (tgt := 190) dX10_init_174 (by decide) (fun z => absurd z (by decide)) (fun _ => ?_)
  refine k_aload_n 0 dX10_init_177 rfl ?_
  refine k_get (q0 := n) (j := 29) e0 (ci := 10) rfl td_in_10 (by decide) rfl (td_in 1106 (by decide +kernel) rfl) rfl dX10_init_178 ?_
  refine k_iload_n 1 dX10_init_181 rfl ?_
  refine k_iconst (v := (-1)) dX10_init_182 (by decide) ?_
  refine k_iast (n := n + 22) (q0 := n + 19) hn x19 (by unfold vp_in; decide) dX10_init_183 (fun L45 hn f45 g45 => ?_)
  have e0 : L45[n]? = some (a, .inr (10, [.ref q1, .ref q2, .int 0, .ref q3, .ref q4, .int 0, .int 0, .int 0, .ref q5, .ref q6, .ref q7, .ref q8, .ref q9, .ref q10, .ref q11, .ref q12, .ref q13, .int 0, .int 0, .int 0, .int 0, .int 0, .int 0, .ref q14, .ref q15, .ref q16, .ref q17, .int 0, .ref q18, .ref q19, .ref q20, .ref q21])) := (f45 n (kz_n0 n (by decide))).trans e0
  have x1 := (f45 _ (kz_nn n (by decide))).trans x1
  have x2 := (f45 _ (kz_nn n (by decide))).trans x2
  have x3 := (f45 _ (kz_nn n (by decide))).trans x3
  have x4 := (f45 _ (kz_nn n (by decide))).trans x4
  have x5 := (f45 _ (kz_nn n (by decide))).trans x5
  have x6 := (f45 _ (kz_nn n (by decide))).trans x6
  have x7 := (f45 _ (kz_nn n (by decide))).trans x7
  have x8 := (f45 _ (kz_nn n (by decide))).trans x8
  have x9 := (f45 _ (kz_nn n (by decide))).trans x9
  have x10 := (f45 _ (kz_nn n (by decide))).trans x10
  have x11 := (f45 _ (kz_nn n (by decide))).trans x11
  have x12 := (f45 _ (kz_nn n (by decide))).trans x12
  have x13 := (f45 _ (kz_nn n (by decide))).trans x13
  have x14 := (f45 _ (kz_nn n (by decide))).trans x14
  have x15 := (f45 _ (kz_nn n (by decide))).trans x15
  have x16 := (f45 _ (kz_nn n (by decide))).trans x16
  have x17 := (f45 _ (kz_nn n (by decide))).trans x17
  have x18 := (f45 _ (kz_nn n (by decide))).trans x18
  have x20 := (f45 _ (kz_nn n (by decide))).trans x20
  have x21 := (f45 _ (kz_nn n (by decide))).trans x21
  have x19 : L45[n + 19]? = some (q19, .inl (G.2.2.1, 4, .inl (upd (upd (upd (fun _ => 0) 0 (-1)) 1 (-1)) 2 (-1)))) := g45
  have keep : ∀ k, k < n → L45[k]? = L[k]? := fun k hk => (f45 k (kz_nk2 19 hk)).trans (keep k hk)
  refine k_iinc 1 (v := 3) (lv2 := [(0, .ref a), (1, .int 3)]) dX10_init_184 rfl (by decide) (by decide) rfl ?_
  refine k_goto (tgt := 172) dX10_init_187 (by decide) ?_
  refine k_iload_n 1 dX10_init_172 rfl ?_
  refine k_iconst (v := 4) dX10_init_173 (by decide) ?_
  refine k_icmp_ge (tgt := 190) dX10_init_174 (by decide) (fun z => absurd z (by decide)) (fun _ => ?_)
  refine k_aload_n 0 dX10_init_177 rfl ?_
  refine k_get (q0 := n) (j := 29) e0 (ci := 10) rfl td_in_10 (by decide) rfl (td_in 1106 (by decide +kernel) rfl) rfl dX10_init_178 ?_
  refine k_iload_n 1 dX10_init_181 rfl ?_
  refine k_iconst (v := (-1)) dX10_init_182 (by decide) ?_
  refine k_iast (n := n + 22) (q0 := n + 19) hn x19 (by unfold vp_in; decide) dX10_init_183 (fun L46 hn f46 g46 => ?_)
  have e0 : L46[n]? = some (a, .inr (10, [.ref q1, .ref q2, .int 0, .ref q3, .ref q4, .int 0, .int 0, .int 0, .ref q5, .ref q6, .ref q7, .ref q8, .ref q9, .ref q10, .ref q11, .ref q12, .ref q13, .int 0, .int 0, .int 0, .int 0, .int 0, .int 0, .ref q14, .ref q15, .ref q16, .ref q17, .int 0, .ref q18, .ref q19, .ref q20, .ref q21])) := (f46 n (kz_n0 n (by decide))).trans e0
  have x1 := (f46 _ (kz_nn n (by decide))).trans x1
  have x2 := (f46 _ (kz_nn n (by decide))).trans x2
  have x3 := (f46 _ (kz_nn n (by decide))).trans x3
  have x4 := (f46 _ (kz_nn n (by decide))).trans x4
  have x5 := (f46 _ (kz_nn n (by decide))).trans x5
  have x6 := (f46 _ (kz_nn n (by decide))).trans x6
  have x7 := (f46 _ (kz_nn n (by decide))).trans x7
  have x8 := (f46 _ (kz_nn n (by decide))).trans x8
  have x9 := (f46 _ (kz_nn n (by decide))).trans x9
  have x10 := (f46 _ (kz_nn n (by decide))).trans x10
  have x11 := (f46 _ (kz_nn n (by decide))).trans x11
  have x12 := (f46 _ (kz_nn n (by decide))).trans x12
  have x13 := (f46 _ (kz_nn n (by decide))).trans x13
  have x14 := (f46 _ (kz_nn n (by decide))).trans x14
  have x15 := (f46 _ (kz_nn n (by decide))).trans x15
  have x16 := (f46 _ (kz_nn n (by decide))).trans x16
  have x17 := (f46 _ (kz_nn n (by decide))).trans x17
  have x18 := (f46 _ (kz_nn n (by decide))).trans x18
  have x20 := (f46 _ (kz_nn n (by decide))).trans x20
  have x21 := (f46 _ (kz_nn n (by decide))).trans x21
  have x19 : L46[n + 19]? = some (q19, .inl (G.2.2.1, 4, .inl (upd (upd (upd (upd (fun _ => 0) 0 (-1)) 1 (-1)) 2 (-1)) 3 (-1)))) := g46
  have keep : ∀ k, k < n → L46[k]? = L[k]? := fun k hk => (f46 k (kz_nk2 19 hk)).trans (keep k hk)
  refine k_iinc 1 (v := 4) (lv2 := [(0, .ref a), (1, .int 4)]) dX10_init_184 rfl (by decide) (by decide) rfl ?_
  refine k_goto (tgt := 172) dX10_init_187 (by decide) ?_
  refine k_iload_n 1 dX10_init_172 rfl ?_
  refine k_iconst (v := 4) dX10_init_173 (by decide) ?_
  refine k_icmp_ge (tgt := 190) dX10_init_174 (by decide) (fun _ => ?_) (fun z => absurd (by decide) z)
  refine k_aload_n 0 dX10_init_190 rfl ?_
  refine k_get (q0 := n) (j := 0) e0 (ci := 10) rfl td_in_10 (by decide) rfl (td_in 1077 (by decide +kernel) rfl) rfl dX10_init_191 ?_
  refine k_iconst (v := 0) dX10_init_194 (by decide) ?_
  refine k_iconst (v := 4) dX10_init_195 (by decide) ?_
  refine k_iast (n := n + 22) (q0 := n + 1) hn x1 (by unfold vp_in; decide) dX10_init_196 (fun L47 hn f47 g47 => ?_)
  have e0 : L47[n]? = some (a, .inr (10, [.ref q1, .ref q2, .int 0, .ref q3, .ref q4, .int 0, .int 0, .int 0, .ref q5, .ref q6, .ref q7, .ref q8, .ref q9, .ref q10, .ref q11, .ref q12, .ref q13, .int 0, .int 0, .int 0, .int 0, .int 0, .int 0, .ref q14, .ref q15, .ref q16, .ref q17, .int 0, .ref q18, .ref q19, .ref q20, .ref q21])) := (f47 n (kz_n0 n (by decide))).trans e0
  have x2 := (f47 _ (kz_nn n (by decide))).trans x2
  have x3 := (f47 _ (kz_nn n (by decide))).trans x3
  have x4 := (f47 _ (kz_nn n (by decide))).trans x4
  have x5 := (f47 _ (kz_nn n (by decide))).trans x5
  have x6 := (f47 _ (kz_nn n (by decide))).trans x6
  have x7 := (f47 _ (kz_nn n (by decide))).trans x7
  have x8 := (f47 _ (kz_nn n (by decide))).trans x8
  have x9 := (f47 _ (kz_nn n (by decide))).trans x9
  have x10 := (f47 _ (kz_nn n (by decide))).trans x10
  have x11 := (f47 _ (kz_nn n (by decide))).trans x11
  have x12 := (f47 _ (kz_nn n (by decide))).trans x12
  have x13 := (f47 _ (kz_nn n (by decide))).trans x13
  have x14 := (f47 _ (kz_nn n (by decide))).trans x14
  have x15 := (f47 _ (kz_nn n (by decide))).trans x15
  have x16 := (f47 _ (kz_nn n (by decide))).trans x16
  have x17 := (f47 _ (kz_nn n (by decide))).trans x17
  have x18 := (f47 _ (kz_nn n (by decide))).trans x18
  have x19 := (f47 _ (kz_nn n (by decide))).trans x19
  have x20 := (f47 _ (kz_nn n (by decide))).trans x20
  have x21 := (f47 _ (kz_nn n (by decide))).trans x21
  have x1 : L47[n + 1]? = some (q1, .inl (G.2.2.1, 46, .inl (upd (fun _ => 0) 0 4))) := g47
  have keep : ∀ k, k < n → L47[k]? = L[k]? := fun k hk => (f47 k (kz_nk2 1 hk)).trans (keep k hk)
  refine k_aload_n 0 dX10_init_197 rfl ?_
  refine k_get (q0 := n) (j := 0) e0 (ci := 10) rfl td_in_10 (by decide) rfl (td_in 1077 (by decide +kernel) rfl) rfl dX10_init_198 ?_
  refine k_iconst (v := 1) dX10_init_201 (by decide) ?_
  refine k_iconst (v := 2) dX10_init_202 (by decide) ?_
  refine k_iast (n := n + 22) (q0 := n + 1) hn x1 (by unfold vp_in; decide) dX10_init_203 (fun L48 hn f48 g48 => ?_)
  have e0 : L48[n]? = some (a, .inr (10, [.ref q1, .ref q2, .int 0, .ref q3, .ref q4, .int 0, .int 0, .int 0, .ref q5, .ref q6, .ref q7, .ref q8, .ref q9, .ref q10, .ref q11, .ref q12, .ref q13, .int 0, .int 0, .int 0, .int 0, .int 0, .int 0, .ref q14, .ref q15, .ref q16, .ref q17, .int 0, .ref q18, .ref q19, .ref q20, .ref q21])) := (f48 n (kz_n0 n (by decide))).trans e0
  have x2 := (f48 _ (kz_nn n (by decide))).trans x2
  have x3 := (f48 _ (kz_nn n (by decide))).trans x3
  have x4 := (f48 _ (kz_nn n (by decide))).trans x4
  have x5 := (f48 _ (kz_nn n (by decide))).trans x5
  have x6 := (f48 _ (kz_nn n (by decide))).trans x6
  have x7 := (f48 _ (kz_nn n (by decide))).trans x7
  have x8 := (f48 _ (kz_nn n (by decide))).trans x8
  have x9 := (f48 _ (kz_nn n (by decide))).trans x9
  have x10 := (f48 _ (kz_nn n (by decide))).trans x10
  have x11 := (f48 _ (kz_nn n (by decide))).trans x11
  have x12 := (f48 _ (kz_nn n (by decide))).trans x12
  have x13 := (f48 _ (kz_nn n (by decide))).trans x13
  have x14 := (f48 _ (kz_nn n (by decide))).trans x14
  have x15 := (f48 _ (kz_nn n (by decide))).trans x15
  have x16 := (f48 _ (kz_nn n (by decide))).trans x16
  have x17 := (f48 _ (kz_nn n (by decide))).trans x17
  have x18 := (f48 _ (kz_nn n (by decide))).trans x18
  have x19 := (f48 _ (kz_nn n (by decide))).trans x19
  have x20 := (f48 _ (kz_nn n (by decide))).trans x20
  have x21 := (f48 _ (kz_nn n (by decide))).trans x21
  have x1 : L48[n + 1]? = some (q1, .inl (G.2.2.1, 46, .inl (upd (upd (fun _ => 0) 0 4) 1 2))) := g48
  have keep : ∀ k, k < n → L48[k]? = L[k]? := fun k hk => (f48 k (kz_nk2 1 hk)).trans (keep k hk)
  refine k_aload_n 0 dX10_init_204 rfl ?_
  refine k_get (q0 := n) (j := 0) e0 (ci := 10) rfl td_in_10 (by decide) rfl (td_in 1077 (by decide +kernel) rfl) rfl dX10_init_205 ?_
  refine k_iconst (v := 2) dX10_init_208 (by decide) ?_
  refine k_iconst (v := 2) dX10_init_209 (by decide) ?_
  refine k_iast (n := n + 22) (q0 := n + 1) hn x1 (by unfold vp_in; decide) dX10_init_210 (fun L49 hn f49 g49 => ?_)
  have e0 : L49[n]? = some (a, .inr (10, [.ref q1, .ref q2, .int 0, .ref q3, .ref q4, .int 0, .int 0, .int 0, .ref q5, .ref q6, .ref q7, .ref q8, .ref q9, .ref q10, .ref q11, .ref q12, .ref q13, .int 0, .int 0, .int 0, .int 0, .int 0, .int 0, .ref q14, .ref q15, .ref q16, .ref q17, .int 0, .ref q18, .ref q19, .ref q20, .ref q21])) := (f49 n (kz_n0 n (by decide))).trans e0
  have x2 := (f49 _ (kz_nn n (by decide))).trans x2
  have x3 := (f49 _ (kz_nn n (by decide))).trans x3
  have x4 := (f49 _ (kz_nn n (by decide))).trans x4
  have x5 := (f49 _ (kz_nn n (by decide))).trans x5
  have x6 := (f49 _ (kz_nn n (by decide))).trans x6
  have x7 := (f49 _ (kz_nn n (by decide))).trans x7
  have x8 := (f49 _ (kz_nn n (by decide))).trans x8
  have x9 := (f49 _ (kz_nn n (by decide))).trans x9
  have x10 := (f49 _ (kz_nn n (by decide))).trans x10
  have x11 := (f49 _ (kz_nn n (by decide))).trans x11
  have x12 := (f49 _ (kz_nn n (by decide))).trans x12
  have x13 := (f49 _ (kz_nn n (by decide))).trans x13
  have x14 := (f49 _ (kz_nn n (by decide))).trans x14
  have x15 := (f49 _ (kz_nn n (by decide))).trans x15
  have x16 := (f49 _ (kz_nn n (by decide))).trans x16
  have x17 := (f49 _ (kz_nn n (by decide))).trans x17
  have x18 := (f49 _ (kz_nn n (by decide))).trans x18
  have x19 := (f49 _ (kz_nn n (by decide))).trans x19
  have x20 := (f49 _ (kz_nn n (by decide))).trans x20
  have x21 := (f49 _ (kz_nn n (by decide))).trans x21
  have x1 : L49[n + 1]? = some (q1, .inl (G.2.2.1, 46, .inl (upd (upd (upd (fun _ => 0) 0 4) 1 2) 2 2))) := g49
  have keep : ∀ k, k < n → L49[k]? = L[k]? := fun k hk => (f49 k (kz_nk2 1 hk)).trans (keep k hk)
  refine k_aload_n 0 dX10_init_211 rfl ?_
  refine k_get (q0 := n) (j := 0) e0 (ci := 10) rfl td_in_10 (by decide) rfl (td_in 1077 (by decide +kernel) rfl) rfl dX10_init_212 ?_
  refine k_iconst (v := 3) dX10_init_215 (by decide) ?_
  refine k_iconst (v := 2) dX10_init_216 (by decide) ?_
  refine k_iast (n := n + 22) (q0 := n + 1) hn x1 (by unfold vp_in; decide) dX10_init_217 (fun L50 hn f50 g50 => ?_)
  have e0 : L50[n]? = some (a, .inr (10, [.ref q1, .ref q2, .int 0, .ref q3, .ref q4, .int 0, .int 0, .int 0, .ref q5, .ref q6, .ref q7, .ref q8, .ref q9, .ref q10, .ref q11, .ref q12, .ref q13, .int 0, .int 0, .int 0, .int 0, .int 0, .int 0, .ref q14, .ref q15, .ref q16, .ref q17, .int 0, .ref q18, .ref q19, .ref q20, .ref q21])) := (f50 n (kz_n0 n (by decide))).trans e0
  have x2 := (f50 _ (kz_nn n (by decide))).trans x2
  have x3 := (f50 _ (kz_nn n (by decide))).trans x3
  have x4 := (f50 _ (kz_nn n (by decide))).trans x4
  have x5 := (f50 _ (kz_nn n (by decide))).trans x5
  have x6 := (f50 _ (kz_nn n (by decide))).trans x6
  have x7 := (f50 _ (kz_nn n (by decide))).trans x7
  have x8 := (f50 _ (kz_nn n (by decide))).trans x8
  have x9 := (f50 _ (kz_nn n (by decide))).trans x9
  have x10 := (f50 _ (kz_nn n (by decide))).trans x10
  have x11 := (f50 _ (kz_nn n (by decide))).trans x11
  have x12 := (f50 _ (kz_nn n (by decide))).trans x12
  have x13 := (f50 _ (kz_nn n (by decide))).trans x13
  have x14 := (f50 _ (kz_nn n (by decide))).trans x14
  have x15 := (f50 _ (kz_nn n (by decide))).trans x15
  have x16 := (f50 _ (kz_nn n (by decide))).trans x16
  have x17 := (f50 _ (kz_nn n (by decide))).trans x17
  have x18 := (f50 _ (kz_nn n (by decide))).trans x18
  have x19 := (f50 _ (kz_nn n (by decide))).trans x19
  have x20 := (f50 _ (kz_nn n (by decide))).trans x20
  have x21 := (f50 _ (kz_nn n (by decide))).trans x21
  have x1 : L50[n + 1]? = some (q1, .inl (G.2.2.1, 46, .inl (upd (upd (upd (upd (fun _ => 0) 0 4) 1 2) 2 2) 3 2))) := g50
  have keep : ∀ k, k < n → L50[k]? = L[k]? := fun k hk => (f50 k (kz_nk2 1 hk)).trans (keep k hk)
  refine k_aload_n 0 dX10_init_218 rfl ?_
  refine k_get (q0 := n) (j := 0) e0 (ci := 10) rfl td_in_10 (by decide) rfl (td_in 1077 (by decide +kernel) rfl) rfl dX10_init_219 ?_
  refine k_iconst (v := 4) dX10_init_222 (by decide) ?_
  refine k_iconst (v := 2) dX10_init_223 (by decide) ?_
  refine k_iast (n := n + 22) (q0 := n + 1) hn x1 (by unfold vp_in; decide) dX10_init_224 (fun L51 hn f51 g51 => ?_)
  have e0 : L51[n]? = some (a, .inr (10, [.ref q1, .ref q2, .int 0, .ref q3, .ref q4, .int 0, .int 0, .int 0, .ref q5, .ref q6, .ref q7, .ref q8, .ref q9, .ref q10, .ref q11, .ref q12, .ref q13, .int 0, .int 0, .int 0, .int 0, .int 0, .int 0, .ref q14, .ref q15, .ref q16, .ref q17, .int 0, .ref q18, .ref q19, .ref q20, .ref q21])) := (f51 n (kz_n0 n (by decide))).trans e0
  have x2 := (f51 _ (kz_nn n (by decide))).trans x2
  have x3 := (f51 _ (kz_nn n (by decide))).trans x3
  have x4 := (f51 _ (kz_nn n (by decide))).trans x4
  have x5 := (f51 _ (kz_nn n (by decide))).trans x5
  have x6 := (f51 _ (kz_nn n (by decide))).trans x6
  have x7 := (f51 _ (kz_nn n (by decide))).trans x7
  have x8 := (f51 _ (kz_nn n (by decide))).trans x8
  have x9 := (f51 _ (kz_nn n (by decide))).trans x9
  have x10 := (f51 _ (kz_nn n (by decide))).trans x10
  have x11 := (f51 _ (kz_nn n (by decide))).trans x11
  have x12 := (f51 _ (kz_nn n (by decide))).trans x12
  have x13 := (f51 _ (kz_nn n (by decide))).trans x13
  have x14 := (f51 _ (kz_nn n (by decide))).trans x14
  have x15 := (f51 _ (kz_nn n (by decide))).trans x15
  have x16 := (f51 _ (kz_nn n (by decide))).trans x16
  have x17 := (f51 _ (kz_nn n (by decide))).trans x17
  have x18 := (f51 _ (kz_nn n (by decide))).trans x18
  have x19 := (f51 _ (kz_nn n (by decide))).trans x19
  have x20 := (f51 _ (kz_nn n (by decide))).trans x20
  have x21 := (f51 _ (kz_nn n (by decide))).trans x21
  have x1 : L51[n + 1]? = some (q1, .inl (G.2.2.1, 46, .inl (upd (upd (upd (upd (upd (fun _ => 0) 0 4) 1 2) 2 2) 3 2) 4 2))) := g51
  have keep : ∀ k, k < n → L51[k]? = L[k]? := fun k hk => (f51 k (kz_nk2 1 hk)).trans (keep k hk)
  refine k_aload_n 0 dX10_init_225 rfl ?_
  refine k_get (q0 := n) (j := 0) e0 (ci := 10) rfl td_in_10 (by decide) rfl (td_in 1077 (by decide +kernel) rfl) rfl dX10_init_226 ?_
  refine k_iconst (v := 5) dX10_init_229 (by decide) ?_
  refine k_iconst (v := 2) dX10_init_230 (by decide) ?_
  refine k_iast (n := n + 22) (q0 := n + 1) hn x1 (by unfold vp_in; decide) dX10_init_231 (fun L52 hn f52 g52 => ?_)
  have e0 : L52[n]? = some (a, .inr (10, [.ref q1, .ref q2, .int 0, .ref q3, .ref q4, .int 0, .int 0, .int 0, .ref q5, .ref q6, .ref q7, .ref q8, .ref q9, .ref q10, .ref q11, .ref q12, .ref q13, .int 0, .int 0, .int 0, .int 0, .int 0, .int 0, .ref q14, .ref q15, .ref q16, .ref q17, .int 0, .ref q18, .ref q19, .ref q20, .ref q21])) := (f52 n (kz_n0 n (by decide))).trans e0
  have x2 := (f52 _ (kz_nn n (by decide))).trans x2
  have x3 := (f52 _ (kz_nn n (by decide))).trans x3
  have x4 := (f52 _ (kz_nn n (by decide))).trans x4
  have x5 := (f52 _ (kz_nn n (by decide))).trans x5
  have x6 := (f52 _ (kz_nn n (by decide))).trans x6
  have x7 := (f52 _ (kz_nn n (by decide))).trans x7
  have x8 := (f52 _ (kz_nn n (by decide))).trans x8
  have x9 := (f52 _ (kz_nn n (by decide))).trans x9
  have x10 := (f52 _ (kz_nn n (by decide))).trans x10
  have x11 := (f52 _ (kz_nn n (by decide))).trans x11
  have x12 := (f52 _ (kz_nn n (by decide))).trans x12
  have x13 := (f52 _ (kz_nn n (by decide))).trans x13
  have x14 := (f52 _ (kz_nn n (by decide))).trans x14
  have x15 := (f52 _ (kz_nn n (by decide))).trans x15
  have x16 := (f52 _ (kz_nn n (by decide))).trans x16
  have x17 := (f52 _ (kz_nn n (by decide))).trans x17
  have x18 := (f52 _ (kz_nn n (by decide))).trans x18
  have x19 := (f52 _ (kz_nn n (by decide))).trans x19
  have x20 := (f52 _ (kz_nn n (by decide))).trans x20
  have x21 := (f52 _ (kz_nn n (by decide))).trans x21
  have x1 : L52[n + 1]? = some (q1, .inl (G.2.2.1, 46, .inl (upd (upd (upd (upd (upd (upd (fun _ => 0) 0 4) 1 2) 2 2) 3 2) 4 2) 5 2))) := g52
  have keep : ∀ k, k < n → L52[k]? = L[k]? := fun k hk => (f52 k (kz_nk2 1 hk)).trans (keep k hk)
  refine k_aload_n 0 dX10_init_232 rfl ?_
  refine k_get (q0 := n) (j := 0) e0 (ci := 10) rfl td_in_10 (by decide) rfl (td_in 1077 (by decide +kernel) rfl) rfl dX10_init_233 ?_
  refine k_bipush (v := 6) dX10_init_236 (by decide) ?_
  refine k_iconst (v := 1) dX10_init_238 (by decide) ?_
  refine k_iast (n := n + 22) (q0 := n + 1) hn x1 (by unfold vp_in; decide) dX10_init_239 (fun L53 hn f53 g53 => ?_)
  have e0 : L53[n]? = some (a, .inr (10, [.ref q1, .ref q2, .int 0, .ref q3, .ref q4, .int 0, .int 0, .int 0, .ref q5, .ref q6, .ref q7, .ref q8, .ref q9, .ref q10, .ref q11, .ref q12, .ref q13, .int 0, .int 0, .int 0, .int 0, .int 0, .int 0, .ref q14, .ref q15, .ref q16, .ref q17, .int 0, .ref q18, .ref q19, .ref q20, .ref q21])) := (f53 n (kz_n0 n (by decide))).trans e0
  have x2 := (f53 _ (kz_nn n (by decide))).trans x2
  have x3 := (f53 _ (kz_nn n (by decide))).trans x3
  have x4 := (f53 _ (kz_nn n (by decide))).trans x4
  have x5 := (f53 _ (kz_nn n (by decide))).trans x5
  have x6 := (f53 _ (kz_nn n (by decide))).trans x6
  have x7 := (f53 _ (kz_nn n (by decide))).trans x7
  have x8 := (f53 _ (kz_nn n (by decide))).trans x8
  have x9 := (f53 _ (kz_nn n (by decide))).trans x9
  have x10 := (f53 _ (kz_nn n (by decide))).trans x10
  have x11 := (f53 _ (kz_nn n (by decide))).trans x11
  have x12 := (f53 _ (kz_nn n (by decide))).trans x12
  have x13 := (f53 _ (kz_nn n (by decide))).trans x13
  have x14 := (f53 _ (kz_nn n (by decide))).trans x14
  have x15 := (f53 _ (kz_nn n (by decide))).trans x15
  have x16 := (f53 _ (kz_nn n (by decide))).trans x16
  have x17 := (f53 _ (kz_nn n (by decide))).trans x17
  have x18 := (f53 _ (kz_nn n (by decide))).trans x18
  have x19 := (f53 _ (kz_nn n (by decide))).trans x19
  have x20 := (f53 _ (kz_nn n (by decide))).trans x20
  have x21 := (f53 _ (kz_nn n (by decide))).trans x21
  have x1 : L53[n + 1]? = some (q1, .inl (G.2.2.1, 46, .inl (upd (upd (upd (upd (upd (upd (upd (fun _ => 0) 0 4) 1 2) 2 2) 3 2) 4 2) 5 2) 6 1))) := g53
  have keep : ∀ k, k < n → L53[k]? = L[k]? := fun k hk => (f53 k (kz_nk2 1 hk)).trans (keep k hk)
  refine k_aload_n 0 dX10_init_240 rfl ?_
  refine k_get (q0 := n) (j := 0) e0 (ci := 10) rfl td_in_10 (by decide) rfl (td_in 1077 (by decide +kernel) rfl) rfl dX10_init_241 ?_
  refine k_bipush (v := 7) dX10_init_244 (by decide) ?_
  refine k_iconst (v := 3) dX10_init_246 (by decide) ?_
  refine k_iast (n := n + 22) (q0 := n + 1) hn x1 (by unfold vp_in; decide) dX10_init_247 (fun L54 hn f54 g54 => ?_)
  have e0 : L54[n]? = some (a, .inr (10, [.ref q1, .ref q2, .int 0, .ref q3, .ref q4, .int 0, .int 0, .int 0, .ref q5, .ref q6, .ref q7, .ref q8, .ref q9, .ref q10, .ref q11, .ref q12, .ref q13, .int 0, .int 0, .int 0, .int 0, .int 0, .int 0, .ref q14, .ref q15, .ref q16, .ref q17, .int 0, .ref q18, .ref q19, .ref q20, .ref q21])) := (f54 n (kz_n0 n (by decide))).trans e0
  have x2 := (f54 _ (kz_nn n (by decide))).trans x2
  have x3 := (f54 _ (kz_nn n (by decide))).trans x3
  have x4 := (f54 _ (kz_nn n (by decide))).trans x4
  have x5 := (f54 _ (kz_nn n (by decide))).trans x5
  have x6 := (f54 _ (kz_nn n (by decide))).trans x6
  have x7 := (f54 _ (kz_nn n (by decide))).trans x7
  have x8 := (f54 _ (kz_nn n (by decide))).trans x8
  have x9 := (f54 _ (kz_nn n (by decide))).trans x9
  have x10 := (f54 _ (kz_nn n (by decide))).trans x10
  have x11 := (f54 _ (kz_nn n (by decide))).trans x11
  have x12 := (f54 _ (kz_nn n (by decide))).trans x12
  have x13 := (f54 _ (kz_nn n (by decide))).trans x13
  have x14 := (f54 _ (kz_nn n (by decide))).trans x14
  have x15 := (f54 _ (kz_nn n (by decide))).trans x15
  have x16 := (f54 _ (kz_nn n (by decide))).trans x16
  have x17 := (f54 _ (kz_nn n (by decide))).trans x17
  have x18 := (f54 _ (kz_nn n (by decide))).trans x18
  have x19 := (f54 _ (kz_nn n (by decide))).trans x19
  have x20 := (f54 _ (kz_nn n (by decide))).trans x20
  have x21 := (f54 _ (kz_nn n (by decide))).trans x21
  have x1 : L54[n + 1]? = some (q1, .inl (G.2.2.1, 46, .inl (upd (upd (upd (upd (upd (upd (upd (upd (fun _ => 0) 0 4) 1 2) 2 2) 3 2) 4 2) 5 2) 6 1) 7 3))) := g54
  have keep : ∀ k, k < n → L54[k]? = L[k]? := fun k hk => (f54 k (kz_nk2 1 hk)).trans (keep k hk)
  refine k_aload_n 0 dX10_init_248 rfl ?_
  refine k_get (q0 := n) (j := 0) e0 (ci := 10) rfl td_in_10 (by decide) rfl (td_in 1077 (by decide +kernel) rfl) rfl dX10_init_249 ?_
  refine k_bipush (v := 8) dX10_init_252 (by decide) ?_
  refine k_bipush (v := 120) dX10_init_254 (by decide) ?_
  refine k_iast (n := n + 22) (q0 := n + 1) hn x1 (by unfold vp_in; decide) dX10_init_256 (fun L55 hn f55 g55 => ?_)
  have e0 : L55[n]? = some (a, .inr (10, [.ref q1, .ref q2, .int 0, .ref q3, .ref q4, .int 0, .int 0, .int 0, .ref q5, .ref q6, .ref q7, .ref q8, .ref q9, .ref q10, .ref q11, .ref q12, .ref q13, .int 0, .int 0, .int 0, .int 0, .int 0, .int 0, .ref q14, .ref q15, .ref q16, .ref q17, .int 0, .ref q18, .ref q19, .ref q20, .ref q21])) := (f55 n (kz_n0 n (by decide))).trans e0
  have x2 := (f55 _ (kz_nn n (by decide))).trans x2
  have x3 := (f55 _ (kz_nn n (by decide))).trans x3
  have x4 := (f55 _ (kz_nn n (by decide))).trans x4
  have x5 := (f55 _ (kz_nn n (by decide))).trans x5
  have x6 := (f55 _ (kz_nn n (by decide))).trans x6
  have x7 := (f55 _ (kz_nn n (by decide))).trans x7
  have x8 := (f55 _ (kz_nn n (by decide))).trans x8
  have x9 := (f55 _ (kz_nn n (by decide))).trans x9
  have x10 := (f55 _ (kz_nn n (by decide))).trans x10
  have x11 := (f55 _ (kz_nn n (by decide))).trans x11
  have x12 := (f55 _ (kz_nn n (by decide))).trans x12
  have x13 := (f55 _ (kz_nn n (by decide))).trans x13
  have x14 := (f55 _ (kz_nn n (by decide))).trans x14
  have x15 := (f55 _ (kz_nn n (by decide))).trans x15
  have x16 := (f55 _ (kz_nn n (by decide))).trans x16
  have x17 := (f55 _ (kz_nn n (by decide))).trans x17
  have x18 := (f55 _ (kz_nn n (by decide))).trans x18
  have x19 := (f55 _ (kz_nn n (by decide))).trans x19
  have x20 := (f55 _ (kz_nn n (by decide))).trans x20
  have x21 := (f55 _ (kz_nn n (by decide))).trans x21
  have x1 : L55[n + 1]? = some (q1, .inl (G.2.2.1, 46, .inl (upd (upd (upd (upd (upd (upd (upd (upd (upd (fun _ => 0) 0 4) 1 2) 2 2) 3 2) 4 2) 5 2) 6 1) 7 3) 8 120))) := g55
  have keep : ∀ k, k < n → L55[k]? = L[k]? := fun k hk => (f55 k (kz_nk2 1 hk)).trans (keep k hk)
  exact k_return rfl (Nat.le_of_ble_eq_true rfl) (Nat.le_of_ble_eq_true rfl) dX10_init_257 ⟨hn, keep, ⟨q1, q2, q3, q4, q5, q6, q7, q8, q9, q10, q11, q12, q13, q14, q15, q16, q17, q18, q19, q20, q21, e0, x1, x2, x3, x4, x5, x6, x7, x8, x9, x10, x11, x12, x13, x14, x15, x16, x17, x18, x19, x20, x21⟩⟩
