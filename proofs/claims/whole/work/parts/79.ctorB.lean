/-! ===== CONSTRUCTORS (written by mkctor.py) ===== -/
theorem kw_oi : Cond.instanceMethod Lib.objectInit ∈ td_all := td_in 132 (by decide +kernel) rfl
theorem kw_oc : Cond.code Lib.objectInit ⟨#[0xb1]⟩ 1 none ∈ td_all := td_in 133 (by decide +kernel) rfl
theorem kw_ai : Cond.arrayClass .int ∈ td_all := td_in 178 (by decide +kernel) rfl
theorem kz_0 (n : Nat) {c : Nat} (h : 0 < c) : n < n + c := by omega
theorem kz_a (n : Nat) {j c : Nat} (h : j < c) : n + j < n + c := by omega
theorem kz_k {n k : Nat} (c : Nat) (h : k < n) : k < n + c := by omega
theorem kz_ne (n : Nat) {j : Nat} (h : 0 < j) : n + j ≠ n := by omega
theorem kz_nk {n k : Nat} (h : k < n) : k ≠ n := by omega
theorem kz_nk2 {n k : Nat} (j : Nat) (h : k < n) : k ≠ n + j := by omega
theorem kz_n0 (n : Nat) {j : Nat} (h : 0 < j) : n ≠ n + j := by omega
theorem kz_nn (n : Nat) {i j : Nat} (h : i ≠ j) : n + i ≠ n + j := by omega
theorem kz_m {n k a z c : Nat} (h2 : k < n + a + z) (h : a + z ≤ c) : k < n + c := by omega
theorem kz_mn {n k a : Nat} (h1 : n + a ≤ k) (h : 0 < a) : k ≠ n := by omega
theorem kz_mb {n k a z j : Nat} (h2 : k < n + a + z) (h : a + z ≤ j) : k ≠ n + j := by omega
theorem kz_ma {n k a j : Nat} (h1 : n + a ≤ k) (h : j < a) : k ≠ n + j := by omega
def fstA : Nat → Int32 := va_cpy (fun j => (td_st 2).getD j 0) (fun _ => 0) 0 0 9
theorem dv_X0 : ∀ j, j < 15 → defaultValue (tyX0 j) = vp_V [.null, .null, .null, .null, .null, .null, .int 0, .int 0, .int 0, .int 0, .int 0, .int 0, .int 0, .int 0, .int 0] j := by
  intro j hj
  rcases (show j = 0 ∨ j = 1 ∨ j = 2 ∨ j = 3 ∨ j = 4 ∨ j = 5 ∨ j = 6 ∨ j = 7 ∨ j = 8 ∨ j = 9 ∨ j = 10 ∨ j = 11 ∨ j = 12 ∨ j = 13 ∨ j = 14 by omega) with rfl | rfl | rfl | rfl | rfl | rfl | rfl | rfl | rfl | rfl | rfl | rfl | rfl | rfl | rfl <;> rfl
theorem dv_X1 : ∀ j, j < 12 → defaultValue (tyX1 j) = vp_V [.null, .null, .null, .null, .null, .int 0, .int 0, .int 0, .int 0, .int 0, .int 0, .int 0] j := by
  intro j hj
  rcases (show j = 0 ∨ j = 1 ∨ j = 2 ∨ j = 3 ∨ j = 4 ∨ j = 5 ∨ j = 6 ∨ j = 7 ∨ j = 8 ∨ j = 9 ∨ j = 10 ∨ j = 11 by omega) with rfl | rfl | rfl | rfl | rfl | rfl | rfl | rfl | rfl | rfl | rfl | rfl <;> rfl
theorem dv_X2 : ∀ j, j < 6 → defaultValue (tyX2 j) = vp_V [.null, .null, .null, .null, .int 0, .int 0] j := by
  intro j hj
  rcases (show j = 0 ∨ j = 1 ∨ j = 2 ∨ j = 3 ∨ j = 4 ∨ j = 5 by omega) with rfl | rfl | rfl | rfl | rfl | rfl <;> rfl
theorem dv_X3 : ∀ j, j < 5 → defaultValue (tyX3 j) = vp_V [.null, .null, .null, .null, .null] j := by
  intro j hj
  rcases (show j = 0 ∨ j = 1 ∨ j = 2 ∨ j = 3 ∨ j = 4 by omega) with rfl | rfl | rfl | rfl | rfl <;> rfl
theorem dv_X4 : ∀ j, j < 7 → defaultValue (tyX4 j) = vp_V [.null, .null, .null, .int 0, .int 0, .int 0, .int 0] j := by
  intro j hj
  rcases (show j = 0 ∨ j = 1 ∨ j = 2 ∨ j = 3 ∨ j = 4 ∨ j = 5 ∨ j = 6 by omega) with rfl | rfl | rfl | rfl | rfl | rfl | rfl <;> rfl
theorem dv_X5 : ∀ j, j < 5 → defaultValue (tyX5 j) = vp_V [.null, .null, .null, .null, .int 0] j := by
  intro j hj
  rcases (show j = 0 ∨ j = 1 ∨ j = 2 ∨ j = 3 ∨ j = 4 by omega) with rfl | rfl | rfl | rfl | rfl <;> rfl
theorem dv_X6 : ∀ j, j < 3 → defaultValue (tyX6 j) = vp_V [.null, .int 0, .int 0] j := by
  intro j hj
  rcases (show j = 0 ∨ j = 1 ∨ j = 2 by omega) with rfl | rfl | rfl <;> rfl
theorem dv_X7 : ∀ j, j < 7 → defaultValue (tyX7 j) = vp_V [.null, .null, .null, .null, .int 0, .int 0, .int 0] j := by
  intro j hj
  rcases (show j = 0 ∨ j = 1 ∨ j = 2 ∨ j = 3 ∨ j = 4 ∨ j = 5 ∨ j = 6 by omega) with rfl | rfl | rfl | rfl | rfl | rfl | rfl <;> rfl
theorem dv_X8 : ∀ j, j < 11 → defaultValue (tyX8 j) = vp_V [.null, .null, .null, .null, .null, .null, .null, .int 0, .int 0, .int 0, .int 0] j := by
  intro j hj
  rcases (show j = 0 ∨ j = 1 ∨ j = 2 ∨ j = 3 ∨ j = 4 ∨ j = 5 ∨ j = 6 ∨ j = 7 ∨ j = 8 ∨ j = 9 ∨ j = 10 by omega) with rfl | rfl | rfl | rfl | rfl | rfl | rfl | rfl | rfl | rfl | rfl <;> rfl
theorem dv_X9 : ∀ j, j < 9 → defaultValue (tyX9 j) = vp_V [.null, .null, .null, .null, .null, .null, .null, .int 0, .int 0] j := by
  intro j hj
  rcases (show j = 0 ∨ j = 1 ∨ j = 2 ∨ j = 3 ∨ j = 4 ∨ j = 5 ∨ j = 6 ∨ j = 7 ∨ j = 8 by omega) with rfl | rfl | rfl | rfl | rfl | rfl | rfl | rfl | rfl <;> rfl
theorem dv_X10 : ∀ j, j < 32 → defaultValue (tyX10 j) = vp_V [.null, .null, .int 0, .null, .null, .int 0, .int 0, .int 0, .null, .null, .null, .null, .null, .null, .null, .null, .null, .int 0, .int 0, .int 0, .int 0, .int 0, .int 0, .null, .null, .null, .null, .int 0, .null, .null, .null, .null] j := by
  intro j hj
  rcases (show j = 0 ∨ j = 1 ∨ j = 2 ∨ j = 3 ∨ j = 4 ∨ j = 5 ∨ j = 6 ∨ j = 7 ∨ j = 8 ∨ j = 9 ∨ j = 10 ∨ j = 11 ∨ j = 12 ∨ j = 13 ∨ j = 14 ∨ j = 15 ∨ j = 16 ∨ j = 17 ∨ j = 18 ∨ j = 19 ∨ j = 20 ∨ j = 21 ∨ j = 22 ∨ j = 23 ∨ j = 24 ∨ j = 25 ∨ j = 26 ∨ j = 27 ∨ j = 28 ∨ j = 29 ∨ j = 30 ∨ j = 31 by omega) with rfl | rfl | rfl | rfl | rfl | rfl | rfl | rfl | rfl | rfl | rfl | rfl | rfl | rfl | rfl | rfl | rfl | rfl | rfl | rfl | rfl | rfl | rfl | rfl | rfl | rfl | rfl | rfl | rfl | rfl | rfl | rfl <;> rfl
section KCP
variable {G : td_G} {R : Room} {M : td_M} {Cx : k_Cx} {Qf : k_Qf} {pc : Nat} {lv lv2 : List (Nat × Value)} {st : List Value} {L : va_W} {cc sl : Nat}
/-- the first settings are copied out of their table -/
theorem k_copyT {n q0 a index : Nat} (hn : L.length = n) (he : L[q0]? = some (a, .inl (G.2.2.1, 9, .inl (fun _ => 0)))) (w1 : Cond.methodLink M.1.cls index arraycopyName ∈ td_all) (w2 : Cond.native arraycopyName ∈ td_all) (w3 : Cond.static arraycopyName ∈ td_all) (w4 : Cond.initialized "java/lang/System" ∈ td_all) (hd : decode M.2.1 pc = .ok (.invokestatic index, 3)) (hf : 1 ≤ R.frames) (hlo : nativeFrameWords "java/lang/System" "arraycopy" 5 + 11 ≤ R.locals)
    (kk : ∀ L1 : va_W, L1.length = n → (∀ k, k ≠ q0 → L1[k]? = L[k]?) → L1[q0]? = some (a, .inl (G.2.2.1, 9, .inl fstA)) → k_J G R M Cx Qf (pc + 3) lv [] L1 cc sl) : k_J G R M Cx Qf pc lv [.int 9, .int 0, .ref a, .int 0, .ref (td_ad G (1000 + 2))] L cc sl := by
  intro p e s m args below meth c H locs ls X hcx hl
  have X0 := X
  obtain ⟨a1, a2, a3, a4, a5, a6, a7, a8, a9, a10, a11, a12, a13, a14⟩ := X
  intro T hT XT
  obtain ⟨scr, hs1, hs2, hs3, hs4, -, hs5, hs7⟩ := (a9.1 2 (by decide)).2
  have hc0 : H[td_ad G (1000 + 2)]? = some scr := by rw [a14.2.1 _ (Array.getElem?_eq_some_iff.mp hs1).1 hs7]; exact hs1
  have hc1 : H[a]? = some (vp_cell G.2.2.1 (9, .inl (fun _ => 0))) := a12 q0 _ he
  have hsz : 9 ≤ scr.slots.size := hs4
  have hs5' : ∀ j : Nat, j < 9 → scr.slots[j]? = some (.int ((fun j => (td_st 2).getD j 0) j)) := fun j hj => hs5 j hj
  obtain ⟨hs6, k0, hk0, cm0, hkk0⟩ := hs2
  obtain ⟨-, k1, hk1, cm1, hkk1⟩ := (a8.1.2 0 _ rfl).1 9 (fun j => .int ((fun _ => (0 : Int32)) j))
  obtain ⟨vm', X', step⟩ := XT.arraycopy a1 a5 (a6 _ w1) (a6 _ w2) (a6 _ w3) (a6 _ w4) (src := td_ad G (1000 + 2)) (dst := a) (cs := scr) (cd := vp_cell G.2.2.1 (9, .inl (fun _ => 0))) (srcPos := 0) (destPos := 0) (n := 9) (by rw [hT]; exact hc0) (by rw [hT]; exact hc1)
    hs6 (fun _ h => by cases h) hs3 (fun h => by cases h) hk0 hk1 hkk0 hkk1 (by simp [refKind]) (by decide) (by decide) (by decide)
    (by show ¬ _ > (scr.slots.size : Int); have : (0 : Int32).toInt + (9 : Int32).toInt = 9 := by decide
        omega)
    (by show ¬ _ > ((arrV G.2.2.1 9 (fun j => .int ((fun _ => (0 : Int32)) j))).slots.size : Int); rw [arrV_size]; decide)
    (fun vm₁ _ i hi => by
      have hi9 : i < 9 := hi
      have e : scr.slots.getD (0 + i) .null = .int ((td_st 2).getD i 0) := by
        rw [Nat.zero_add, Array.getD_eq_getD_getElem?, hs5' i hi9]
        rfl
      have e' : scr.slots.getD ((0 : Int32).toNatClampNeg + i) .null = .int ((td_st 2).getD i 0) := e
      refine ⟨?_, ?_⟩
      · rw [e']
        rfl
      · rw [e']
        exact trivial)
    (g := F0 m pc ls [.int 9, .int 0, .ref a, .int 0, .ref (td_ad G (1000 + 2))]) rfl (by rw [a4]; exact hl.1) (rest := []) rfl (by rw [a2]; exact hd) hf (by show 2 * 0 + 0 + _ ≤ _; omega)
  have e1 : copied scr (vp_cell G.2.2.1 (9, .inl (fun _ => 0))) 0 0 9 = vp_cell G.2.2.1 (9, .inl fstA) := va_copiedX (fun z => .int z) scr G.2.2.1 (fun j => (td_st 2).getD j 0) (fun _ => 0) hs5' (show (0 : Int32).toNatClampNeg + (9 : Int32).toNatClampNeg ≤ 9 by decide)
  rw [e1] at X' step
  have hlt : a < H.size := (Array.getElem?_eq_some_iff.mp hc1).1
  have hheap : ((T.setVm vm').setCell a (vp_cell G.2.2.1 (9, .inl fstA))).heap = H.setIfInBounds a (vp_cell G.2.2.1 (9, .inl fstA)) := by rw [← hT]; rfl
  have oq : ∀ q : Nat, q ≠ a → (H.setIfInBounds a (vp_cell G.2.2.1 (9, .inl fstA)))[q]? = H[q]? := fun q hq => by simp [Array.getElem?_setIfInBounds, Ne.symm hq]
  obtain ⟨b1, b2, b3⟩ := k_st hn he (a, .inl (G.2.2.1, 9, .inl fstA))
  obtain ⟨t, c1, c2⟩ := kk _ b1 b2 b3 p e s m args below meth c _ _ ls (X0.to (a12.set a13 he (show (H.setIfInBounds a _)[a]? = some _ by simp [Array.getElem?_setIfInBounds, hlt]) oq) (a13.set he) ⟨by simp; exact a14.1, fun q g1 g2 => by
      rw [oq q (fun e => g2 (by rw [e]; exact a13.2 q0 _ he))]
      exact a14.2.1 q g1 g2, fun q hq => by
      rcases List.mem_append.mp hq with h | h
      · exact a14.2.2 q h
      · obtain ⟨z, -, hz⟩ := List.mem_map.mp h
        rw [← hz]
        exact a13.2 q0 _ he⟩) hcx hl _ hheap X'
  exact ⟨t, step t c1, c2⟩
end KCP
def planAt (G : td_G) (L : va_W) (n a : Nat) : Prop := ∃ q1 q2 q3 q4 : Nat, L[n]? = some (a, .inr (5, [.ref q1, .ref q2, .ref q3, .ref q4, .int 0])) ∧ L[n + 1]? = some (q1, .inl (G.2.2.1, 9, .inl fstA)) ∧ L[n + 2]? = some (q2, .inl (G.2.2.1, 12, .inl (fun _ => 0))) ∧ L[n + 3]? = some (q3, .inl (G.2.2.1, 12, .inl (fun _ => 0))) ∧ L[n + 4]? = some (q4, .inl (G.2.2.1, 12, .inl (fun _ => 0)))
theorem planAt.mono {G : td_G} {L L2 : va_W} {n a : Nat} (h : planAt G L n a) (e : ∀ k, n ≤ k → k < n + 5 → L2[k]? = L[k]?) : planAt G L2 n a := by
  obtain ⟨q1, q2, q3, q4, z0, z1, z2, z3, z4⟩ := h
  exact ⟨q1, q2, q3, q4, (e _ (by omega) (by omega)).trans z0, (e _ (by omega) (by omega)).trans z1, (e _ (by omega) (by omega)).trans z2, (e _ (by omega) (by omega)).trans z3, (e _ (by omega) (by omega)).trans z4⟩
theorem planAt.obj {G : td_G} {L : va_W} {n a : Nat} (h : planAt G L n a) : ∃ vs, L[n]? = some (a, .inr (5, vs)) := by
  obtain ⟨q1, q2, q3, q4, z0, z1, z2, z3, z4⟩ := h
  exact ⟨_, z0⟩
set_option maxRecDepth 20000 in
set_option maxHeartbeats 4000000 in
theorem c_ini_plan {G : td_G} {L : va_W} {n a : Nat} (hn : L.length = n + 1) (e0 : L[n]? = some (a, .inr (5, [.null, .null, .null, .null, .int 0]))) : k_C G 1 4 45 mX5_init a L (fun L1 => L1.length = n + 5 ∧ (∀ k, k < n → L1[k]? = L[k]?) ∧ planAt G L1 n a) := by
  refine k_entry rfl (Nat.le_of_ble_eq_true rfl) rfl ?_
  have keep : ∀ k, k < n → L[k]? = L[k]? := fun _ _ => rfl
  refine k_aload_n 0 dX5_init_0 rfl ?_
  refine k_obj (td_in 139 (by decide +kernel) rfl) kw_oi kw_oc dX5_init_1 (Nat.le_of_ble_eq_true rfl) (Nat.le_of_ble_eq_true rfl) ?_
  refine k_aload_n 0 dX5_init_4 rfl ?_
  refine k_bipush (v := 9) dX5_init_5 (by decide) ?_
  refine k_newa (n := n + 1) (N := 9) hn kw_ai (by decide) (by decide) (by decide) (Nat.le_of_ble_eq_true rfl) (Nat.le_of_ble_eq_true rfl) dX5_init_7 (fun q1 L1 hn f1 g1 => ?_)
  have e0 : L1[n]? = some (a, .inr (5, [.null, .null, .null, .null, .int 0])) := (f1 n (kz_0 n (by decide))).trans e0
  have keep : ∀ k, k < n → L1[k]? = L[k]? := fun k hk => (f1 k (kz_k 1 hk)).trans (keep k hk)
  have x1 : L1[n + 1]? = some (q1, .inl (G.2.2.1, 9, .inl (fun _ => 0))) := g1
  refine k_putF (n := n + 2) (q0 := n) (j := 0) (ty0 := tyX5) hn e0 (ci := 5) rfl rfl td_in_5 tyX5_ok nmX5 (by decide) rfl rfl (td_in 145 (by decide +kernel) rfl) rfl rfl (Nat.le_of_ble_eq_true rfl) dX5_init_9 (fun L2 hn f2 g2 => ?_)
  have e0 : L2[n]? = some (a, .inr (5, [.ref q1, .null, .null, .null, .int 0])) := g2
  have x1 := (f2 _ (kz_ne n (by decide))).trans x1
  have keep : ∀ k, k < n → L2[k]? = L[k]? := fun k hk => (f2 k (kz_nk hk)).trans (keep k hk)
  refine k_aload_n 0 dX5_init_12 rfl ?_
  refine k_bipush (v := 12) dX5_init_13 (by decide) ?_
  refine k_newa (n := n + 2) (N := 12) hn kw_ai (by decide) (by decide) (by decide) (Nat.le_of_ble_eq_true rfl) (Nat.le_of_ble_eq_true rfl) dX5_init_15 (fun q2 L3 hn f3 g3 => ?_)
  have e0 : L3[n]? = some (a, .inr (5, [.ref q1, .null, .null, .null, .int 0])) := (f3 n (kz_0 n (by decide))).trans e0
  have x1 := (f3 _ (kz_a n (by decide))).trans x1
  have keep : ∀ k, k < n → L3[k]? = L[k]? := fun k hk => (f3 k (kz_k 2 hk)).trans (keep k hk)
  have x2 : L3[n + 2]? = some (q2, .inl (G.2.2.1, 12, .inl (fun _ => 0))) := g3
  refine k_putF (n := n + 3) (q0 := n) (j := 1) (ty0 := tyX5) hn e0 (ci := 5) rfl rfl td_in_5 tyX5_ok nmX5 (by decide) rfl rfl (td_in 150 (by decide +kernel) rfl) rfl rfl (Nat.le_of_ble_eq_true rfl) dX5_init_17 (fun L4 hn f4 g4 => ?_)
  have e0 : L4[n]? = some (a, .inr (5, [.ref q1, .ref q2, .null, .null, .int 0])) := g4
  have x1 := (f4 _ (kz_ne n (by decide))).trans x1
  have x2 := (f4 _ (kz_ne n (by decide))).trans x2
  have keep : ∀ k, k < n → L4[k]? = L[k]? := fun k hk => (f4 k (kz_nk hk)).trans (keep k hk)
  refine k_aload_n 0 dX5_init_20 rfl ?_
  refine k_bipush (v := 12) dX5_init_21 (by decide) ?_
  refine k_newa (n := n + 3) (N := 12) hn kw_ai (by decide) (by decide) (by decide) (Nat.le_of_ble_eq_true rfl) (Nat.le_of_ble_eq_true rfl) dX5_init_23 (fun q3 L5 hn f5 g5 => ?_)
  have e0 : L5[n]? = some (a, .inr (5, [.ref q1, .ref q2, .null, .null, .int 0])) := (f5 n (kz_0 n (by decide))).trans e0
  have x1 := (f5 _ (kz_a n (by decide))).trans x1
  have x2 := (f5 _ (kz_a n (by decide))).trans x2
  have keep : ∀ k, k < n → L5[k]? = L[k]? := fun k hk => (f5 k (kz_k 3 hk)).trans (keep k hk)
  have x3 : L5[n + 3]? = some (q3, .inl (G.2.2.1, 12, .inl (fun _ => 0))) := g5
  refine k_putF (n := n + 4) (q0 := n) (j := 2) (ty0 := tyX5) hn e0 (ci := 5) rfl rfl td_in_5 tyX5_ok nmX5 (by decide) rfl rfl (td_in 155 (by decide +kernel) rfl) rfl rfl (Nat.le_of_ble_eq_true rfl) dX5_init_25 (fun L6 hn f6 g6 => ?_)
  have e0 : L6[n]? = some (a, .inr (5, [.ref q1, .ref q2, .ref q3, .null, .int 0])) := g6
  have x1 := (f6 _ (kz_ne n (by decide))).trans x1
  have x2 := (f6 _ (kz_ne n (by decide))).trans x2
  have x3 := (f6 _ (kz_ne n (by decide))).trans x3
  have keep : ∀ k, k < n → L6[k]? = L[k]? := fun k hk => (f6 k (kz_nk hk)).trans (keep k hk)
  refine k_aload_n 0 dX5_init_28 rfl ?_
  refine k_bipush (v := 12) dX5_init_29 (by decide) ?_
  refine k_newa (n := n + 4) (N := 12) hn kw_ai (by decide) (by decide) (by decide) (Nat.le_of_ble_eq_true rfl) (Nat.le_of_ble_eq_true rfl) dX5_init_31 (fun q4 L7 hn f7 g7 => ?_)
  have e0 : L7[n]? = some (a, .inr (5, [.ref q1, .ref q2, .ref q3, .null, .int 0])) := (f7 n (kz_0 n (by decide))).trans e0
  have x1 := (f7 _ (kz_a n (by decide))).trans x1
  have x2 := (f7 _ (kz_a n (by decide))).trans x2
  have x3 := (f7 _ (kz_a n (by decide))).trans x3
  have keep : ∀ k, k < n → L7[k]? = L[k]? := fun k hk => (f7 k (kz_k 4 hk)).trans (keep k hk)
  have x4 : L7[n + 4]? = some (q4, .inl (G.2.2.1, 12, .inl (fun _ => 0))) := g7
  refine k_putF (n := n + 5) (q0 := n) (j := 3) (ty0 := tyX5) hn e0 (ci := 5) rfl rfl td_in_5 tyX5_ok nmX5 (by decide) rfl rfl (td_in 158 (by decide +kernel) rfl) rfl rfl (Nat.le_of_ble_eq_true rfl) dX5_init_33 (fun L8 hn f8 g8 => ?_)
  have e0 : L8[n]? = some (a, .inr (5, [.ref q1, .ref q2, .ref q3, .ref q4, .int 0])) := g8
  have x1 := (f8 _ (kz_ne n (by decide))).trans x1
  have x2 := (f8 _ (kz_ne n (by decide))).trans x2
  have x3 := (f8 _ (kz_ne n (by decide))).trans x3
  have x4 := (f8 _ (kz_ne n (by decide))).trans x4
  have keep : ∀ k, k < n → L8[k]? = L[k]? := fun k hk => (f8 k (kz_nk hk)).trans (keep k hk)
  refine k_getsN (i := 2) (host := "TurnDoor") (by decide) (td_inN 35 (by decide +kernel) rfl) dX5_init_36 ?_
  refine k_iconst (v := 0) dX5_init_39 (by decide) ?_
  refine k_aload_n 0 dX5_init_40 rfl ?_
  refine k_get (q0 := n) (j := 0) e0 (ci := 5) rfl td_in_5 (by decide) rfl (td_in 145 (by decide +kernel) rfl) rfl dX5_init_41 ?_
  refine k_iconst (v := 0) dX5_init_44 (by decide) ?_
  refine k_bipush (v := 9) dX5_init_45 (by decide) ?_
  refine k_copyT (n := n + 5) (q0 := n + 1) hn x1 (td_in 142 (by decide +kernel) rfl) (td_in 144 (by decide +kernel) rfl) (td_in 143 (by decide +kernel) rfl) (td_in 108 (by decide +kernel) rfl) dX5_init_47 (Nat.le_of_ble_eq_true rfl) (by show _ ≤ 40 * 1; decide) (fun L9 hn f9 g9 => ?_)
  have e0 : L9[n]? = some (a, .inr (5, [.ref q1, .ref q2, .ref q3, .ref q4, .int 0])) := (f9 n (kz_n0 n (by decide))).trans e0
  have x2 := (f9 _ (kz_nn n (by decide))).trans x2
  have x3 := (f9 _ (kz_nn n (by decide))).trans x3
  have x4 := (f9 _ (kz_nn n (by decide))).trans x4
  have x1 : L9[n + 1]? = some (q1, .inl (G.2.2.1, 9, .inl fstA)) := g9
  have keep : ∀ k, k < n → L9[k]? = L[k]? := fun k hk => (f9 k (kz_nk2 1 hk)).trans (keep k hk)
  exact k_return rfl (Nat.le_of_ble_eq_true rfl) (Nat.le_of_ble_eq_true rfl) dX5_init_50 ⟨hn, keep, ⟨q1, q2, q3, q4, e0, x1, x2, x3, x4⟩⟩
def tapeAt (G : td_G) (L : va_W) (n a : Nat) : Prop := ∃ q1 q2 q3 q4 : Nat, L[n]? = some (a, .inr (7, [.ref q1, .ref q2, .ref q3, .ref q4, .int 0, .int 0, .int 0])) ∧ L[n + 1]? = some (q1, .inl (G.2.2.1, 80, .inl (fun _ => 0))) ∧ L[n + 2]? = some (q2, .inl (G.2.2.1, 8, .inl (fun _ => 0))) ∧ L[n + 3]? = some (q3, .inl (G.2.2.1, 8, .inl (fun _ => 0))) ∧ L[n + 4]? = some (q4, .inl (G.2.2.1, 8, .inl (fun _ => 0)))
theorem tapeAt.mono {G : td_G} {L L2 : va_W} {n a : Nat} (h : tapeAt G L n a) (e : ∀ k, n ≤ k → k < n + 5 → L2[k]? = L[k]?) : tapeAt G L2 n a := by
  obtain ⟨q1, q2, q3, q4, z0, z1, z2, z3, z4⟩ := h
  exact ⟨q1, q2, q3, q4, (e _ (by omega) (by omega)).trans z0, (e _ (by omega) (by omega)).trans z1, (e _ (by omega) (by omega)).trans z2, (e _ (by omega) (by omega)).trans z3, (e _ (by omega) (by omega)).trans z4⟩
theorem tapeAt.obj {G : td_G} {L : va_W} {n a : Nat} (h : tapeAt G L n a) : ∃ vs, L[n]? = some (a, .inr (7, vs)) := by
  obtain ⟨q1, q2, q3, q4, z0, z1, z2, z3, z4⟩ := h
  exact ⟨_, z0⟩
set_option maxRecDepth 20000 in
set_option maxHeartbeats 4000000 in
theorem c_ini_tape {G : td_G} {L : va_W} {n a : Nat} (hn : L.length = n + 1) (e0 : L[n]? = some (a, .inr (7, [.null, .null, .null, .null, .int 0, .int 0, .int 0]))) : k_C G 1 4 104 mX7_init a L (fun L1 => L1.length = n + 5 ∧ (∀ k, k < n → L1[k]? = L[k]?) ∧ tapeAt G L1 n a) := by
  refine k_entry rfl (Nat.le_of_ble_eq_true rfl) rfl ?_
  have keep : ∀ k, k < n → L[k]? = L[k]? := fun _ _ => rfl
  refine k_aload_n 0 dX7_init_0 rfl ?_
  refine k_obj (td_in 184 (by decide +kernel) rfl) kw_oi kw_oc dX7_init_1 (Nat.le_of_ble_eq_true rfl) (Nat.le_of_ble_eq_true rfl) ?_
  refine k_aload_n 0 dX7_init_4 rfl ?_
  refine k_bipush (v := 80) dX7_init_5 (by decide) ?_
  refine k_newa (n := n + 1) (N := 80) hn kw_ai (by decide) (by decide) (by decide) (Nat.le_of_ble_eq_true rfl) (Nat.le_of_ble_eq_true rfl) dX7_init_7 (fun q1 L1 hn f1 g1 => ?_)
  have e0 : L1[n]? = some (a, .inr (7, [.null, .null, .null, .null, .int 0, .int 0, .int 0])) := (f1 n (kz_0 n (by decide))).trans e0
  have keep : ∀ k, k < n → L1[k]? = L[k]? := fun k hk => (f1 k (kz_k 1 hk)).trans (keep k hk)
  have x1 : L1[n + 1]? = some (q1, .inl (G.2.2.1, 80, .inl (fun _ => 0))) := g1
  refine k_putF (n := n + 2) (q0 := n) (j := 0) (ty0 := tyX7) hn e0 (ci := 7) rfl rfl td_in_7 tyX7_ok nmX7 (by decide) rfl rfl (td_in 185 (by decide +kernel) rfl) rfl rfl (Nat.le_of_ble_eq_true rfl) dX7_init_9 (fun L2 hn f2 g2 => ?_)
  have e0 : L2[n]? = some (a, .inr (7, [.ref q1, .null, .null, .null, .int 0, .int 0, .int 0])) := g2
  have x1 := (f2 _ (kz_ne n (by decide))).trans x1
  have keep : ∀ k, k < n → L2[k]? = L[k]? := fun k hk => (f2 k (kz_nk hk)).trans (keep k hk)
  refine k_aload_n 0 dX7_init_12 rfl ?_
  refine k_bipush (v := 8) dX7_init_13 (by decide) ?_
  refine k_newa (n := n + 2) (N := 8) hn kw_ai (by decide) (by decide) (by decide) (Nat.le_of_ble_eq_true rfl) (Nat.le_of_ble_eq_true rfl) dX7_init_15 (fun q2 L3 hn f3 g3 => ?_)
  have e0 : L3[n]? = some (a, .inr (7, [.ref q1, .null, .null, .null, .int 0, .int 0, .int 0])) := (f3 n (kz_0 n (by decide))).trans e0
  have x1 := (f3 _ (kz_a n (by decide))).trans x1
  have keep : ∀ k, k < n → L3[k]? = L[k]? := fun k hk => (f3 k (kz_k 2 hk)).trans (keep k hk)
  have x2 : L3[n + 2]? = some (q2, .inl (G.2.2.1, 8, .inl (fun _ => 0))) := g3
  refine k_putF (n := n + 3) (q0 := n) (j := 1) (ty0 := tyX7) hn e0 (ci := 7) rfl rfl td_in_7 tyX7_ok nmX7 (by decide) rfl rfl (td_in 186 (by decide +kernel) rfl) rfl rfl (Nat.le_of_ble_eq_true rfl) dX7_init_17 (fun L4 hn f4 g4 => ?_)
  have e0 : L4[n]? = some (a, .inr (7, [.ref q1, .ref q2, .null, .null, .int 0, .int 0, .int 0])) := g4
  have x1 := (f4 _ (kz_ne n (by decide))).trans x1
  have x2 := (f4 _ (kz_ne n (by decide))).trans x2
  have keep : ∀ k, k < n → L4[k]? = L[k]? := fun k hk => (f4 k (kz_nk hk)).trans (keep k hk)
  refine k_aload_n 0 dX7_init_20 rfl ?_
  refine k_bipush (v := 8) dX7_init_21 (by decide) ?_
  refine k_newa (n := n + 3) (N := 8) hn kw_ai (by decide) (by decide) (by decide) (Nat.le_of_ble_eq_true rfl) (Nat.le_of_ble_eq_true rfl) dX7_init_23 (fun q3 L5 hn f5 g5 => ?_)
  have e0 : L5[n]? = some (a, .inr (7, [.ref q1, .ref q2, .null, .null, .int 0, .int 0, .int 0])) := (f5 n (kz_0 n (by decide))).trans e0
  have x1 := (f5 _ (kz_a n (by decide))).trans x1
  have x2 := (f5 _ (kz_a n (by decide))).trans x2
  have keep : ∀ k, k < n → L5[k]? = L[k]? := fun k hk => (f5 k (kz_k 3 hk)).trans (keep k hk)
  have x3 : L5[n + 3]? = some (q3, .inl (G.2.2.1, 8, .inl (fun _ => 0))) := g5
  refine k_putF (n := n + 4) (q0 := n) (j := 2) (ty0 := tyX7) hn e0 (ci := 7) rfl rfl td_in_7 tyX7_ok nmX7 (by decide) rfl rfl (td_in 188 (by decide +kernel) rfl) rfl rfl (Nat.le_of_ble_eq_true rfl) dX7_init_25 (fun L6 hn f6 g6 => ?_)
  have e0 : L6[n]? = some (a, .inr (7, [.ref q1, .ref q2, .ref q3, .null, .int 0, .int 0, .int 0])) := g6
  have x1 := (f6 _ (kz_ne n (by decide))).trans x1
  have x2 := (f6 _ (kz_ne n (by decide))).trans x2
  have x3 := (f6 _ (kz_ne n (by decide))).trans x3
  have keep : ∀ k, k < n → L6[k]? = L[k]? := fun k hk => (f6 k (kz_nk hk)).trans (keep k hk)
  refine k_aload_n 0 dX7_init_28 rfl ?_
  refine k_bipush (v := 8) dX7_init_29 (by decide) ?_
  refine k_newa (n := n + 4) (N := 8) hn kw_ai (by decide) (by decide) (by decide) (Nat.le_of_ble_eq_true rfl) (Nat.le_of_ble_eq_true rfl) dX7_init_31 (fun q4 L7 hn f7 g7 => ?_)
  have e0 : L7[n]? = some (a, .inr (7, [.ref q1, .ref q2, .ref q3, .null, .int 0, .int 0, .int 0])) := (f7 n (kz_0 n (by decide))).trans e0
  have x1 := (f7 _ (kz_a n (by decide))).trans x1
  have x2 := (f7 _ (kz_a n (by decide))).trans x2
  have x3 := (f7 _ (kz_a n (by decide))).trans x3
  have keep : ∀ k, k < n → L7[k]? = L[k]? := fun k hk => (f7 k (kz_k 4 hk)).trans (keep k hk)
  have x4 : L7[n + 4]? = some (q4, .inl (G.2.2.1, 8, .inl (fun _ => 0))) := g7
  refine k_putF (n := n + 5) (q0 := n) (j := 3) (ty0 := tyX7) hn e0 (ci := 7) rfl rfl td_in_7 tyX7_ok nmX7 (by decide) rfl rfl (td_in 190 (by decide +kernel) rfl) rfl rfl (Nat.le_of_ble_eq_true rfl) dX7_init_33 (fun L8 hn f8 g8 => ?_)
  have e0 : L8[n]? = some (a, .inr (7, [.ref q1, .ref q2, .ref q3, .ref q4, .int 0, .int 0, .int 0])) := g8
  have x1 := (f8 _ (kz_ne n (by decide))).trans x1
  have x2 := (f8 _ (kz_ne n (by decide))).trans x2
  have x3 := (f8 _ (kz_ne n (by decide))).trans x3
  have x4 := (f8 _ (kz_ne n (by decide))).trans x4
  have keep : ∀ k, k < n → L8[k]? = L[k]? := fun k hk => (f8 k (kz_nk hk)).trans (keep k hk)
  exact k_return rfl (Nat.le_of_ble_eq_true rfl) (Nat.le_of_ble_eq_true rfl) dX7_init_36 ⟨hn, keep, ⟨q1, q2, q3, q4, e0, x1, x2, x3, x4⟩⟩
def drumAt (G : td_G) (L : va_W) (n a : Nat) : Prop := ∃ q1 q2 q3 q4 q5 : Nat, L[n]? = some (a, .inr (1, [.ref q1, .ref q2, .ref q3, .ref q4, .ref q5, .int 0, .int 0, .int 0, .int 0, .int 0, .int 0, .int 0])) ∧ L[n + 1]? = some (q1, .inl (G.2.2.1, 96, .inl (fun _ => 0))) ∧ L[n + 2]? = some (q2, .inl (G.2.2.1, 24, .inl (fun _ => 0))) ∧ L[n + 3]? = some (q3, .inl (G.2.2.1, 4, .inl (fun _ => 0))) ∧ L[n + 4]? = some (q4, .inl (G.2.2.1, 4, .inl (fun _ => 0))) ∧ L[n + 5]? = some (q5, .inl (G.2.2.1, 12, .inl (fun _ => 0)))
theorem drumAt.mono {G : td_G} {L L2 : va_W} {n a : Nat} (h : drumAt G L n a) (e : ∀ k, n ≤ k → k < n + 6 → L2[k]? = L[k]?) : drumAt G L2 n a := by
  obtain ⟨q1, q2, q3, q4, q5, z0, z1, z2, z3, z4, z5⟩ := h
  exact ⟨q1, q2, q3, q4, q5, (e _ (by omega) (by omega)).trans z0, (e _ (by omega) (by omega)).trans z1, (e _ (by omega) (by omega)).trans z2, (e _ (by omega) (by omega)).trans z3, (e _ (by omega) (by omega)).trans z4, (e _ (by omega) (by omega)).trans z5⟩
theorem drumAt.obj {G : td_G} {L : va_W} {n a : Nat} (h : drumAt G L n a) : ∃ vs, L[n]? = some (a, .inr (1, vs)) := by
  obtain ⟨q1, q2, q3, q4, q5, z0, z1, z2, z3, z4, z5⟩ := h
  exact ⟨_, z0⟩
set_option maxRecDepth 20000 in
set_option maxHeartbeats 4000000 in
theorem c_ini_drum {G : td_G} {L : va_W} {n a : Nat} (hn : L.length = n + 1) (e0 : L[n]? = some (a, .inr (1, [.null, .null, .null, .null, .null, .int 0, .int 0, .int 0, .int 0, .int 0, .int 0, .int 0]))) : k_C G 1 5 140 mX1_init a L (fun L1 => L1.length = n + 6 ∧ (∀ k, k < n → L1[k]? = L[k]?) ∧ drumAt G L1 n a) := by
  refine k_entry rfl (Nat.le_of_ble_eq_true rfl) rfl ?_
  have keep : ∀ k, k < n → L[k]? = L[k]? := fun _ _ => rfl
  refine k_aload_n 0 dX1_init_0 rfl ?_
  refine k_obj (td_in 225 (by decide +kernel) rfl) kw_oi kw_oc dX1_init_1 (Nat.le_of_ble_eq_true rfl) (Nat.le_of_ble_eq_true rfl) ?_
  refine k_aload_n 0 dX1_init_4 rfl ?_
  refine k_bipush (v := 96) dX1_init_5 (by decide) ?_
  refine k_newa (n := n + 1) (N := 96) hn kw_ai (by decide) (by decide) (by decide) (Nat.le_of_ble_eq_true rfl) (Nat.le_of_ble_eq_true rfl) dX1_init_7 (fun q1 L1 hn f1 g1 => ?_)
  have e0 : L1[n]? = some (a, .inr (1, [.null, .null, .null, .null, .null, .int 0, .int 0, .int 0, .int 0, .int 0, .int 0, .int 0])) := (f1 n (kz_0 n (by decide))).trans e0
  have keep : ∀ k, k < n → L1[k]? = L[k]? := fun k hk => (f1 k (kz_k 1 hk)).trans (keep k hk)
  have x1 : L1[n + 1]? = some (q1, .inl (G.2.2.1, 96, .inl (fun _ => 0))) := g1
  refine k_putF (n := n + 2) (q0 := n) (j := 0) (ty0 := tyX1) hn e0 (ci := 1) rfl rfl td_in_1 tyX1_ok nmX1 (by decide) rfl rfl (td_in 226 (by decide +kernel) rfl) rfl rfl (Nat.le_of_ble_eq_true rfl) dX1_init_9 (fun L2 hn f2 g2 => ?_)
  have e0 : L2[n]? = some (a, .inr (1, [.ref q1, .null, .null, .null, .null, .int 0, .int 0, .int 0, .int 0, .int 0, .int 0, .int 0])) := g2
  have x1 := (f2 _ (kz_ne n (by decide))).trans x1
  have keep : ∀ k, k < n → L2[k]? = L[k]? := fun k hk => (f2 k (kz_nk hk)).trans (keep k hk)
  refine k_aload_n 0 dX1_init_12 rfl ?_
  refine k_bipush (v := 24) dX1_init_13 (by decide) ?_
  refine k_newa (n := n + 2) (N := 24) hn kw_ai (by decide) (by decide) (by decide) (Nat.le_of_ble_eq_true rfl) (Nat.le_of_ble_eq_true rfl) dX1_init_15 (fun q2 L3 hn f3 g3 => ?_)
  have e0 : L3[n]? = some (a, .inr (1, [.ref q1, .null, .null, .null, .null, .int 0, .int 0, .int 0, .int 0, .int 0, .int 0, .int 0])) := (f3 n (kz_0 n (by decide))).trans e0
  have x1 := (f3 _ (kz_a n (by decide))).trans x1
  have keep : ∀ k, k < n → L3[k]? = L[k]? := fun k hk => (f3 k (kz_k 2 hk)).trans (keep k hk)
  have x2 : L3[n + 2]? = some (q2, .inl (G.2.2.1, 24, .inl (fun _ => 0))) := g3
  refine k_putF (n := n + 3) (q0 := n) (j := 1) (ty0 := tyX1) hn e0 (ci := 1) rfl rfl td_in_1 tyX1_ok nmX1 (by decide) rfl rfl (td_in 227 (by decide +kernel) rfl) rfl rfl (Nat.le_of_ble_eq_true rfl) dX1_init_17 (fun L4 hn f4 g4 => ?_)
  have e0 : L4[n]? = some (a, .inr (1, [.ref q1, .ref q2, .null, .null, .null, .int 0, .int 0, .int 0, .int 0, .int 0, .int 0, .int 0])) := g4
  have x1 := (f4 _ (kz_ne n (by decide))).trans x1
  have x2 := (f4 _ (kz_ne n (by decide))).trans x2
  have keep : ∀ k, k < n → L4[k]? = L[k]? := fun k hk => (f4 k (kz_nk hk)).trans (keep k hk)
  refine k_aload_n 0 dX1_init_20 rfl ?_
  refine k_iconst (v := 4) dX1_init_21 (by decide) ?_
  refine k_newa (n := n + 3) (N := 4) hn kw_ai (by decide) (by decide) (by decide) (Nat.le_of_ble_eq_true rfl) (Nat.le_of_ble_eq_true rfl) dX1_init_22 (fun q3 L5 hn f5 g5 => ?_)
  have e0 : L5[n]? = some (a, .inr (1, [.ref q1, .ref q2, .null, .null, .null, .int 0, .int 0, .int 0, .int 0, .int 0, .int 0, .int 0])) := (f5 n (kz_0 n (by decide))).trans e0
  have x1 := (f5 _ (kz_a n (by decide))).trans x1
  have x2 := (f5 _ (kz_a n (by decide))).trans x2
  have keep : ∀ k, k < n → L5[k]? = L[k]? := fun k hk => (f5 k (kz_k 3 hk)).trans (keep k hk)
  have x3 : L5[n + 3]? = some (q3, .inl (G.2.2.1, 4, .inl (fun _ => 0))) := g5
  refine k_putF (n := n + 4) (q0 := n) (j := 2) (ty0 := tyX1) hn e0 (ci := 1) rfl rfl td_in_1 tyX1_ok nmX1 (by decide) rfl rfl (td_in 228 (by decide +kernel) rfl) rfl rfl (Nat.le_of_ble_eq_true rfl) dX1_init_24 (fun L6 hn f6 g6 => ?_)
  have e0 : L6[n]? = some (a, .inr (1, [.ref q1, .ref q2, .ref q3, .null, .null, .int 0, .int 0, .int 0, .int 0, .int 0, .int 0, .int 0])) := g6
  have x1 := (f6 _ (kz_ne n (by decide))).trans x1
  have x2 := (f6 _ (kz_ne n (by decide))).trans x2
  have x3 := (f6 _ (kz_ne n (by decide))).trans x3
  have keep : ∀ k, k < n → L6[k]? = L[k]? := fun k hk => (f6 k (kz_nk hk)).trans (keep k hk)
  refine k_aload_n 0 dX1_init_27 rfl ?_
  refine k_iconst (v := 4) dX1_init_28 (by decide) ?_
  refine k_newa (n := n + 4) (N := 4) hn kw_ai (by decide) (by decide) (by decide) (Nat.le_of_ble_eq_true rfl) (Nat.le_of_ble_eq_true rfl) dX1_init_29 (fun q4 L7 hn f7 g7 => ?_)
  have e0 : L7[n]? = some (a, .inr (1, [.ref q1, .ref q2, .ref q3, .null, .null, .int 0, .int 0, .int 0, .int 0, .int 0, .int 0, .int 0])) := (f7 n (kz_0 n (by decide))).trans e0
  have x1 := (f7 _ (kz_a n (by decide))).trans x1
  have x2 := (f7 _ (kz_a n (by decide))).trans x2
  have x3 := (f7 _ (kz_a n (by decide))).trans x3
  have keep : ∀ k, k < n → L7[k]? = L[k]? := fun k hk => (f7 k (kz_k 4 hk)).trans (keep k hk)
  have x4 : L7[n + 4]? = some (q4, .inl (G.2.2.1, 4, .inl (fun _ => 0))) := g7
  refine k_putF (n := n + 5) (q0 := n) (j := 3) (ty0 := tyX1) hn e0 (ci := 1) rfl rfl td_in_1 tyX1_ok nmX1 (by decide) rfl rfl (td_in 231 (by decide +kernel) rfl) rfl rfl (Nat.le_of_ble_eq_true rfl) dX1_init_31 (fun L8 hn f8 g8 => ?_)
  have e0 : L8[n]? = some (a, .inr (1, [.ref q1, .ref q2, .ref q3, .ref q4, .null, .int 0, .int 0, .int 0, .int 0, .int 0, .int 0, .int 0])) := g8
  have x1 := (f8 _ (kz_ne n (by decide))).trans x1
  have x2 := (f8 _ (kz_ne n (by decide))).trans x2
  have x3 := (f8 _ (kz_ne n (by decide))).trans x3
  have x4 := (f8 _ (kz_ne n (by decide))).trans x4
  have keep : ∀ k, k < n → L8[k]? = L[k]? := fun k hk => (f8 k (kz_nk hk)).trans (keep k hk)
  refine k_aload_n 0 dX1_init_34 rfl ?_
  refine k_bipush (v := 12) dX1_init_35 (by decide) ?_
  refine k_newa (n := n + 5) (N := 12) hn kw_ai (by decide) (by decide) (by decide) (Nat.le_of_ble_eq_true rfl) (Nat.le_of_ble_eq_true rfl) dX1_init_37 (fun q5 L9 hn f9 g9 => ?_)
  have e0 : L9[n]? = some (a, .inr (1, [.ref q1, .ref q2, .ref q3, .ref q4, .null, .int 0, .int 0, .int 0, .int 0, .int 0, .int 0, .int 0])) := (f9 n (kz_0 n (by decide))).trans e0
  have x1 := (f9 _ (kz_a n (by decide))).trans x1
  have x2 := (f9 _ (kz_a n (by decide))).trans x2
  have x3 := (f9 _ (kz_a n (by decide))).trans x3
  have x4 := (f9 _ (kz_a n (by decide))).trans x4
  have keep : ∀ k, k < n → L9[k]? = L[k]? := fun k hk => (f9 k (kz_k 5 hk)).trans (keep k hk)
  have x5 : L9[n + 5]? = some (q5, .inl (G.2.2.1, 12, .inl (fun _ => 0))) := g9
  refine k_putF (n := n + 6) (q0 := n) (j := 4) (ty0 := tyX1) hn e0 (ci := 1) rfl rfl td_in_1 tyX1_ok nmX1 (by decide) rfl rfl (td_in 233 (by decide +kernel) rfl) rfl rfl (Nat.le_of_ble_eq_true rfl) dX1_init_39 (fun L10 hn f10 g10 => ?_)
  have e0 : L10[n]? = some (a, .inr (1, [.ref q1, .ref q2, .ref q3, .ref q4, .ref q5, .int 0, .int 0, .int 0, .int 0, .int 0, .int 0, .int 0])) := g10
  have x1 := (f10 _ (kz_ne n (by decide))).trans x1
  have x2 := (f10 _ (kz_ne n (by decide))).trans x2
  have x3 := (f10 _ (kz_ne n (by decide))).trans x3
  have x4 := (f10 _ (kz_ne n (by decide))).trans x4
  have x5 := (f10 _ (kz_ne n (by decide))).trans x5
  have keep : ∀ k, k < n → L10[k]? = L[k]? := fun k hk => (f10 k (kz_nk hk)).trans (keep k hk)
  exact k_return rfl (Nat.le_of_ble_eq_true rfl) (Nat.le_of_ble_eq_true rfl) dX1_init_42 ⟨hn, keep, ⟨q1, q2, q3, q4, q5, e0, x1, x2, x3, x4, x5⟩⟩
def fatesAt (G : td_G) (L : va_W) (n a : Nat) : Prop := ∃ q1 q2 q3 q4 : Nat, L[n]? = some (a, .inr (2, [.ref q1, .ref q2, .ref q3, .ref q4, .int 0, .int 0])) ∧ L[n + 1]? = some (q1, .inl (G.2.2.1, 12, .inl (fun _ => 0))) ∧ L[n + 2]? = some (q2, .inl (G.2.2.1, 12, .inl (fun _ => 0))) ∧ L[n + 3]? = some (q3, .inl (G.2.2.1, 12, .inl (fun _ => 0))) ∧ L[n + 4]? = some (q4, .inl (G.2.2.1, 12, .inl (fun _ => 0)))
theorem fatesAt.mono {G : td_G} {L L2 : va_W} {n a : Nat} (h : fatesAt G L n a) (e : ∀ k, n ≤ k → k < n + 5 → L2[k]? = L[k]?) : fatesAt G L2 n a := by
  obtain ⟨q1, q2, q3, q4, z0, z1, z2, z3, z4⟩ := h
  exact ⟨q1, q2, q3, q4, (e _ (by omega) (by omega)).trans z0, (e _ (by omega) (by omega)).trans z1, (e _ (by omega) (by omega)).trans z2, (e _ (by omega) (by omega)).trans z3, (e _ (by omega) (by omega)).trans z4⟩
theorem fatesAt.obj {G : td_G} {L : va_W} {n a : Nat} (h : fatesAt G L n a) : ∃ vs, L[n]? = some (a, .inr (2, vs)) := by
  obtain ⟨q1, q2, q3, q4, z0, z1, z2, z3, z4⟩ := h
  exact ⟨_, z0⟩
set_option maxRecDepth 20000 in
set_option maxHeartbeats 4000000 in
theorem c_ini_fates {G : td_G} {L : va_W} {n a : Nat} (hn : L.length = n + 1) (e0 : L[n]? = some (a, .inr (2, [.null, .null, .null, .null, .int 0, .int 0]))) : k_C G 1 4 48 mX2_init a L (fun L1 => L1.length = n + 5 ∧ (∀ k, k < n → L1[k]? = L[k]?) ∧ fatesAt G L1 n a) := by
  refine k_entry rfl (Nat.le_of_ble_eq_true rfl) rfl ?_
  have keep : ∀ k, k < n → L[k]? = L[k]? := fun _ _ => rfl
  refine k_aload_n 0 dX2_init_0 rfl ?_
  refine k_obj (td_in 278 (by decide +kernel) rfl) kw_oi kw_oc dX2_init_1 (Nat.le_of_ble_eq_true rfl) (Nat.le_of_ble_eq_true rfl) ?_
  refine k_aload_n 0 dX2_init_4 rfl ?_
  refine k_bipush (v := 12) dX2_init_5 (by decide) ?_
  refine k_newa (n := n + 1) (N := 12) hn kw_ai (by decide) (by decide) (by decide) (Nat.le_of_ble_eq_true rfl) (Nat.le_of_ble_eq_true rfl) dX2_init_7 (fun q1 L1 hn f1 g1 => ?_)
  have e0 : L1[n]? = some (a, .inr (2, [.null, .null, .null, .null, .int 0, .int 0])) := (f1 n (kz_0 n (by decide))).trans e0
  have keep : ∀ k, k < n → L1[k]? = L[k]? := fun k hk => (f1 k (kz_k 1 hk)).trans (keep k hk)
  have x1 : L1[n + 1]? = some (q1, .inl (G.2.2.1, 12, .inl (fun _ => 0))) := g1
  refine k_putF (n := n + 2) (q0 := n) (j := 0) (ty0 := tyX2) hn e0 (ci := 2) rfl rfl td_in_2 tyX2_ok nmX2 (by decide) rfl rfl (td_in 279 (by decide +kernel) rfl) rfl rfl (Nat.le_of_ble_eq_true rfl) dX2_init_9 (fun L2 hn f2 g2 => ?_)
  have e0 : L2[n]? = some (a, .inr (2, [.ref q1, .null, .null, .null, .int 0, .int 0])) := g2
  have x1 := (f2 _ (kz_ne n (by decide))).trans x1
  have keep : ∀ k, k < n → L2[k]? = L[k]? := fun k hk => (f2 k (kz_nk hk)).trans (keep k hk)
  refine k_aload_n 0 dX2_init_12 rfl ?_
  refine k_bipush (v := 12) dX2_init_13 (by decide) ?_
  refine k_newa (n := n + 2) (N := 12) hn kw_ai (by decide) (by decide) (by decide) (Nat.le_of_ble_eq_true rfl) (Nat.le_of_ble_eq_true rfl) dX2_init_15 (fun q2 L3 hn f3 g3 => ?_)
  have e0 : L3[n]? = some (a, .inr (2, [.ref q1, .null, .null, .null, .int 0, .int 0])) := (f3 n (kz_0 n (by decide))).trans e0
  have x1 := (f3 _ (kz_a n (by decide))).trans x1
  have keep : ∀ k, k < n → L3[k]? = L[k]? := fun k hk => (f3 k (kz_k 2 hk)).trans (keep k hk)
  have x2 : L3[n + 2]? = some (q2, .inl (G.2.2.1, 12, .inl (fun _ => 0))) := g3
  refine k_putF (n := n + 3) (q0 := n) (j := 1) (ty0 := tyX2) hn e0 (ci := 2) rfl rfl td_in_2 tyX2_ok nmX2 (by decide) rfl rfl (td_in 282 (by decide +kernel) rfl) rfl rfl (Nat.le_of_ble_eq_true rfl) dX2_init_17 (fun L4 hn f4 g4 => ?_)
  have e0 : L4[n]? = some (a, .inr (2, [.ref q1, .ref q2, .null, .null, .int 0, .int 0])) := g4
  have x1 := (f4 _ (kz_ne n (by decide))).trans x1
  have x2 := (f4 _ (kz_ne n (by decide))).trans x2
  have keep : ∀ k, k < n → L4[k]? = L[k]? := fun k hk => (f4 k (kz_nk hk)).trans (keep k hk)
  refine k_aload_n 0 dX2_init_20 rfl ?_
  refine k_bipush (v := 12) dX2_init_21 (by decide) ?_
  refine k_newa (n := n + 3) (N := 12) hn kw_ai (by decide) (by decide) (by decide) (Nat.le_of_ble_eq_true rfl) (Nat.le_of_ble_eq_true rfl) dX2_init_23 (fun q3 L5 hn f5 g5 => ?_)
  have e0 : L5[n]? = some (a, .inr (2, [.ref q1, .ref q2, .null, .null, .int 0, .int 0])) := (f5 n (kz_0 n (by decide))).trans e0
  have x1 := (f5 _ (kz_a n (by decide))).trans x1
  have x2 := (f5 _ (kz_a n (by decide))).trans x2
  have keep : ∀ k, k < n → L5[k]? = L[k]? := fun k hk => (f5 k (kz_k 3 hk)).trans (keep k hk)
  have x3 : L5[n + 3]? = some (q3, .inl (G.2.2.1, 12, .inl (fun _ => 0))) := g5
  refine k_putF (n := n + 4) (q0 := n) (j := 2) (ty0 := tyX2) hn e0 (ci := 2) rfl rfl td_in_2 tyX2_ok nmX2 (by decide) rfl rfl (td_in 284 (by decide +kernel) rfl) rfl rfl (Nat.le_of_ble_eq_true rfl) dX2_init_25 (fun L6 hn f6 g6 => ?_)
  have e0 : L6[n]? = some (a, .inr (2, [.ref q1, .ref q2, .ref q3, .null, .int 0, .int 0])) := g6
  have x1 := (f6 _ (kz_ne n (by decide))).trans x1
  have x2 := (f6 _ (kz_ne n (by decide))).trans x2
  have x3 := (f6 _ (kz_ne n (by decide))).trans x3
  have keep : ∀ k, k < n → L6[k]? = L[k]? := fun k hk => (f6 k (kz_nk hk)).trans (keep k hk)
  refine k_aload_n 0 dX2_init_28 rfl ?_
  refine k_bipush (v := 12) dX2_init_29 (by decide) ?_
  refine k_newa (n := n + 4) (N := 12) hn kw_ai (by decide) (by decide) (by decide) (Nat.le_of_ble_eq_true rfl) (Nat.le_of_ble_eq_true rfl) dX2_init_31 (fun q4 L7 hn f7 g7 => ?_)
  have e0 : L7[n]? = some (a, .inr (2, [.ref q1, .ref q2, .ref q3, .null, .int 0, .int 0])) := (f7 n (kz_0 n (by decide))).trans e0
  have x1 := (f7 _ (kz_a n (by decide))).trans x1
  have x2 := (f7 _ (kz_a n (by decide))).trans x2
  have x3 := (f7 _ (kz_a n (by decide))).trans x3
  have keep : ∀ k, k < n → L7[k]? = L[k]? := fun k hk => (f7 k (kz_k 4 hk)).trans (keep k hk)
  have x4 : L7[n + 4]? = some (q4, .inl (G.2.2.1, 12, .inl (fun _ => 0))) := g7
  refine k_putF (n := n + 5) (q0 := n) (j := 3) (ty0 := tyX2) hn e0 (ci := 2) rfl rfl td_in_2 tyX2_ok nmX2 (by decide) rfl rfl (td_in 287 (by decide +kernel) rfl) rfl rfl (Nat.le_of_ble_eq_true rfl) dX2_init_33 (fun L8 hn f8 g8 => ?_)
  have e0 : L8[n]? = some (a, .inr (2, [.ref q1, .ref q2, .ref q3, .ref q4, .int 0, .int 0])) := g8
  have x1 := (f8 _ (kz_ne n (by decide))).trans x1
  have x2 := (f8 _ (kz_ne n (by decide))).trans x2
  have x3 := (f8 _ (kz_ne n (by decide))).trans x3
  have x4 := (f8 _ (kz_ne n (by decide))).trans x4
  have keep : ∀ k, k < n → L8[k]? = L[k]? := fun k hk => (f8 k (kz_nk hk)).trans (keep k hk)
  exact k_return rfl (Nat.le_of_ble_eq_true rfl) (Nat.le_of_ble_eq_true rfl) dX2_init_36 ⟨hn, keep, ⟨q1, q2, q3, q4, e0, x1, x2, x3, x4⟩⟩
def logAt (G : td_G) (L : va_W) (n a : Nat) : Prop := ∃ q1 q2 q3 q4 q5 : Nat, L[n]? = some (a, .inr (3, [.ref q1, .ref q2, .ref q3, .ref q4, .ref q5])) ∧ L[n + 1]? = some (q1, .inl (G.2.2.1, 120, .inl (fun _ => 0))) ∧ L[n + 2]? = some (q2, .inl (G.2.2.1, 120, .inl (fun _ => 0))) ∧ L[n + 3]? = some (q3, .inl (G.2.2.1, 120, .inl (fun _ => 0))) ∧ L[n + 4]? = some (q4, .inl (G.2.2.1, 120, .inl (fun _ => 0))) ∧ L[n + 5]? = some (q5, .inl (G.2.2.1, 480, .inl (fun _ => 0)))
theorem logAt.mono {G : td_G} {L L2 : va_W} {n a : Nat} (h : logAt G L n a) (e : ∀ k, n ≤ k → k < n + 6 → L2[k]? = L[k]?) : logAt G L2 n a := by
  obtain ⟨q1, q2, q3, q4, q5, z0, z1, z2, z3, z4, z5⟩ := h
  exact ⟨q1, q2, q3, q4, q5, (e _ (by omega) (by omega)).trans z0, (e _ (by omega) (by omega)).trans z1, (e _ (by omega) (by omega)).trans z2, (e _ (by omega) (by omega)).trans z3, (e _ (by omega) (by omega)).trans z4, (e _ (by omega) (by omega)).trans z5⟩
theorem logAt.obj {G : td_G} {L : va_W} {n a : Nat} (h : logAt G L n a) : ∃ vs, L[n]? = some (a, .inr (3, vs)) := by
  obtain ⟨q1, q2, q3, q4, q5, z0, z1, z2, z3, z4, z5⟩ := h
  exact ⟨_, z0⟩
set_option maxRecDepth 20000 in
set_option maxHeartbeats 4000000 in
theorem c_ini_log {G : td_G} {L : va_W} {n a : Nat} (hn : L.length = n + 1) (e0 : L[n]? = some (a, .inr (3, [.null, .null, .null, .null, .null]))) : k_C G 1 5 960 mX3_init a L (fun L1 => L1.length = n + 6 ∧ (∀ k, k < n → L1[k]? = L[k]?) ∧ logAt G L1 n a) := by
  refine k_entry rfl (Nat.le_of_ble_eq_true rfl) rfl ?_
  have keep : ∀ k, k < n → L[k]? = L[k]? := fun _ _ => rfl
  refine k_aload_n 0 dX3_init_0 rfl ?_
  refine k_obj (td_in 370 (by decide +kernel) rfl) kw_oi kw_oc dX3_init_1 (Nat.le_of_ble_eq_true rfl) (Nat.le_of_ble_eq_true rfl) ?_
  refine k_aload_n 0 dX3_init_4 rfl ?_
  refine k_bipush (v := 120) dX3_init_5 (by decide) ?_
  refine k_newa (n := n + 1) (N := 120) hn kw_ai (by decide) (by decide) (by decide) (Nat.le_of_ble_eq_true rfl) (Nat.le_of_ble_eq_true rfl) dX3_init_7 (fun q1 L1 hn f1 g1 => ?_)
  have e0 : L1[n]? = some (a, .inr (3, [.null, .null, .null, .null, .null])) := (f1 n (kz_0 n (by decide))).trans e0
  have keep : ∀ k, k < n → L1[k]? = L[k]? := fun k hk => (f1 k (kz_k 1 hk)).trans (keep k hk)
  have x1 : L1[n + 1]? = some (q1, .inl (G.2.2.1, 120, .inl (fun _ => 0))) := g1
  refine k_putF (n := n + 2) (q0 := n) (j := 0) (ty0 := tyX3) hn e0 (ci := 3) rfl rfl td_in_3 tyX3_ok nmX3 (by decide) rfl rfl (td_in 371 (by decide +kernel) rfl) rfl rfl (Nat.le_of_ble_eq_true rfl) dX3_init_9 (fun L2 hn f2 g2 => ?_)
  have e0 : L2[n]? = some (a, .inr (3, [.ref q1, .null, .null, .null, .null])) := g2
  have x1 := (f2 _ (kz_ne n (by decide))).trans x1
  have keep : ∀ k, k < n → L2[k]? = L[k]? := fun k hk => (f2 k (kz_nk hk)).trans (keep k hk)
  refine k_aload_n 0 dX3_init_12 rfl ?_
  refine k_bipush (v := 120) dX3_init_13 (by decide) ?_
  refine k_newa (n := n + 2) (N := 120) hn kw_ai (by decide) (by decide) (by decide) (Nat.le_of_ble_eq_true rfl) (Nat.le_of_ble_eq_true rfl) dX3_init_15 (fun q2 L3 hn f3 g3 => ?_)
  have e0 : L3[n]? = some (a, .inr (3, [.ref q1, .null, .null, .null, .null])) := (f3 n (kz_0 n (by decide))).trans e0
  have x1 := (f3 _ (kz_a n (by decide))).trans x1
  have keep : ∀ k, k < n → L3[k]? = L[k]? := fun k hk => (f3 k (kz_k 2 hk)).trans (keep k hk)
  have x2 : L3[n + 2]? = some (q2, .inl (G.2.2.1, 120, .inl (fun _ => 0))) := g3
  refine k_putF (n := n + 3) (q0 := n) (j := 1) (ty0 := tyX3) hn e0 (ci := 3) rfl rfl td_in_3 tyX3_ok nmX3 (by decide) rfl rfl (td_in 373 (by decide +kernel) rfl) rfl rfl (Nat.le_of_ble_eq_true rfl) dX3_init_17 (fun L4 hn f4 g4 => ?_)
  have e0 : L4[n]? = some (a, .inr (3, [.ref q1, .ref q2, .null, .null, .null])) := g4
  have x1 := (f4 _ (kz_ne n (by decide))).trans x1
  have x2 := (f4 _ (kz_ne n (by decide))).trans x2
  have keep : ∀ k, k < n → L4[k]? = L[k]? := fun k hk => (f4 k (kz_nk hk)).trans (keep k hk)
  refine k_aload_n 0 dX3_init_20 rfl ?_
  refine k_bipush (v := 120) dX3_init_21 (by decide) ?_
  refine k_newa (n := n + 3) (N := 120) hn kw_ai (by decide) (by decide) (by decide) (Nat.le_of_ble_eq_true rfl) (Nat.le_of_ble_eq_true rfl) dX3_init_23 (fun q3 L5 hn f5 g5 => ?_)
  have e0 : L5[n]? = some (a, .inr (3, [.ref q1, .ref q2, .null, .null, .null])) := (f5 n (kz_0 n (by decide))).trans e0
  have x1 := (f5 _ (kz_a n (by decide))).trans x1
  have x2 := (f5 _ (kz_a n (by decide))).trans x2
  have keep : ∀ k, k < n → L5[k]? = L[k]? := fun k hk => (f5 k (kz_k 3 hk)).trans (keep k hk)
  have x3 : L5[n + 3]? = some (q3, .inl (G.2.2.1, 120, .inl (fun _ => 0))) := g5
  refine k_putF (n := n + 4) (q0 := n) (j := 2) (ty0 := tyX3) hn e0 (ci := 3) rfl rfl td_in_3 tyX3_ok nmX3 (by decide) rfl rfl (td_in 375 (by decide +kernel) rfl) rfl rfl (Nat.le_of_ble_eq_true rfl) dX3_init_25 (fun L6 hn f6 g6 => ?_)
  have e0 : L6[n]? = some (a, .inr (3, [.ref q1, .ref q2, .ref q3, .null, .null])) := g6
  have x1 := (f6 _ (kz_ne n (by decide))).trans x1
  have x2 := (f6 _ (kz_ne n (by decide))).trans x2
  have x3 := (f6 _ (kz_ne n (by decide))).trans x3
  have keep : ∀ k, k < n → L6[k]? = L[k]? := fun k hk => (f6 k (kz_nk hk)).trans (keep k hk)
  refine k_aload_n 0 dX3_init_28 rfl ?_
  refine k_bipush (v := 120) dX3_init_29 (by decide) ?_
  refine k_newa (n := n + 4) (N := 120) hn kw_ai (by decide) (by decide) (by decide) (Nat.le_of_ble_eq_true rfl) (Nat.le_of_ble_eq_true rfl) dX3_init_31 (fun q4 L7 hn f7 g7 => ?_)
  have e0 : L7[n]? = some (a, .inr (3, [.ref q1, .ref q2, .ref q3, .null, .null])) := (f7 n (kz_0 n (by decide))).trans e0
  have x1 := (f7 _ (kz_a n (by decide))).trans x1
  have x2 := (f7 _ (kz_a n (by decide))).trans x2
  have x3 := (f7 _ (kz_a n (by decide))).trans x3
  have keep : ∀ k, k < n → L7[k]? = L[k]? := fun k hk => (f7 k (kz_k 4 hk)).trans (keep k hk)
  have x4 : L7[n + 4]? = some (q4, .inl (G.2.2.1, 120, .inl (fun _ => 0))) := g7
  refine k_putF (n := n + 5) (q0 := n) (j := 3) (ty0 := tyX3) hn e0 (ci := 3) rfl rfl td_in_3 tyX3_ok nmX3 (by decide) rfl rfl (td_in 377 (by decide +kernel) rfl) rfl rfl (Nat.le_of_ble_eq_true rfl) dX3_init_33 (fun L8 hn f8 g8 => ?_)
  have e0 : L8[n]? = some (a, .inr (3, [.ref q1, .ref q2, .ref q3, .ref q4, .null])) := g8
  have x1 := (f8 _ (kz_ne n (by decide))).trans x1
  have x2 := (f8 _ (kz_ne n (by decide))).trans x2
  have x3 := (f8 _ (kz_ne n (by decide))).trans x3
  have x4 := (f8 _ (kz_ne n (by decide))).trans x4
  have keep : ∀ k, k < n → L8[k]? = L[k]? := fun k hk => (f8 k (kz_nk hk)).trans (keep k hk)
  refine k_aload_n 0 dX3_init_36 rfl ?_
  refine k_sipush (v := 480) dX3_init_37 (by decide) ?_
  refine k_newa (n := n + 5) (N := 480) hn kw_ai (by decide) (by decide) (by decide) (Nat.le_of_ble_eq_true rfl) (Nat.le_of_ble_eq_true rfl) dX3_init_40 (fun q5 L9 hn f9 g9 => ?_)
  have e0 : L9[n]? = some (a, .inr (3, [.ref q1, .ref q2, .ref q3, .ref q4, .null])) := (f9 n (kz_0 n (by decide))).trans e0
  have x1 := (f9 _ (kz_a n (by decide))).trans x1
  have x2 := (f9 _ (kz_a n (by decide))).trans x2
  have x3 := (f9 _ (kz_a n (by decide))).trans x3
  have x4 := (f9 _ (kz_a n (by decide))).trans x4
  have keep : ∀ k, k < n → L9[k]? = L[k]? := fun k hk => (f9 k (kz_k 5 hk)).trans (keep k hk)
  have x5 : L9[n + 5]? = some (q5, .inl (G.2.2.1, 480, .inl (fun _ => 0))) := g9
  refine k_putF (n := n + 6) (q0 := n) (j := 4) (ty0 := tyX3) hn e0 (ci := 3) rfl rfl td_in_3 tyX3_ok nmX3 (by decide) rfl rfl (td_in 379 (by decide +kernel) rfl) rfl rfl (Nat.le_of_ble_eq_true rfl) dX3_init_42 (fun L10 hn f10 g10 => ?_)
  have e0 : L10[n]? = some (a, .inr (3, [.ref q1, .ref q2, .ref q3, .ref q4, .ref q5])) := g10
  have x1 := (f10 _ (kz_ne n (by decide))).trans x1
  have x2 := (f10 _ (kz_ne n (by decide))).trans x2
  have x3 := (f10 _ (kz_ne n (by decide))).trans x3
  have x4 := (f10 _ (kz_ne n (by decide))).trans x4
  have x5 := (f10 _ (kz_ne n (by decide))).trans x5
  have keep : ∀ k, k < n → L10[k]? = L[k]? := fun k hk => (f10 k (kz_nk hk)).trans (keep k hk)
  exact k_return rfl (Nat.le_of_ble_eq_true rfl) (Nat.le_of_ble_eq_true rfl) dX3_init_45 ⟨hn, keep, ⟨q1, q2, q3, q4, q5, e0, x1, x2, x3, x4, x5⟩⟩
def orderAt (G : td_G) (L : va_W) (n a : Nat) : Prop := ∃ q1 q2 q3 : Nat, L[n]? = some (a, .inr (4, [.ref q1, .ref q2, .ref q3, .int 0, .int 0, .int 0, .int 0])) ∧ L[n + 1]? = some (q1, .inl (G.2.2.1, 6, .inl (fun _ => 0))) ∧ L[n + 2]? = some (q2, .inl (G.2.2.1, 6, .inl (fun _ => 0))) ∧ L[n + 3]? = some (q3, .inl (G.2.2.1, 6, .inl (fun _ => 0)))
theorem orderAt.mono {G : td_G} {L L2 : va_W} {n a : Nat} (h : orderAt G L n a) (e : ∀ k, n ≤ k → k < n + 4 → L2[k]? = L[k]?) : orderAt G L2 n a := by
  obtain ⟨q1, q2, q3, z0, z1, z2, z3⟩ := h
  exact ⟨q1, q2, q3, (e _ (by omega) (by omega)).trans z0, (e _ (by omega) (by omega)).trans z1, (e _ (by omega) (by omega)).trans z2, (e _ (by omega) (by omega)).trans z3⟩
theorem orderAt.obj {G : td_G} {L : va_W} {n a : Nat} (h : orderAt G L n a) : ∃ vs, L[n]? = some (a, .inr (4, vs)) := by
  obtain ⟨q1, q2, q3, z0, z1, z2, z3⟩ := h
  exact ⟨_, z0⟩
set_option maxRecDepth 20000 in
set_option maxHeartbeats 4000000 in
theorem c_ini_order {G : td_G} {L : va_W} {n a : Nat} (hn : L.length = n + 1) (e0 : L[n]? = some (a, .inr (4, [.null, .null, .null, .int 0, .int 0, .int 0, .int 0]))) : k_C G 1 3 18 mX4_init a L (fun L1 => L1.length = n + 4 ∧ (∀ k, k < n → L1[k]? = L[k]?) ∧ orderAt G L1 n a) := by
  refine k_entry rfl (Nat.le_of_ble_eq_true rfl) rfl ?_
  have keep : ∀ k, k < n → L[k]? = L[k]? := fun _ _ => rfl
  refine k_aload_n 0 dX4_init_0 rfl ?_
  refine k_obj (td_in 407 (by decide +kernel) rfl) kw_oi kw_oc dX4_init_1 (Nat.le_of_ble_eq_true rfl) (Nat.le_of_ble_eq_true rfl) ?_
  refine k_aload_n 0 dX4_init_4 rfl ?_
  refine k_bipush (v := 6) dX4_init_5 (by decide) ?_
  refine k_newa (n := n + 1) (N := 6) hn kw_ai (by decide) (by decide) (by decide) (Nat.le_of_ble_eq_true rfl) (Nat.le_of_ble_eq_true rfl) dX4_init_7 (fun q1 L1 hn f1 g1 => ?_)
  have e0 : L1[n]? = some (a, .inr (4, [.null, .null, .null, .int 0, .int 0, .int 0, .int 0])) := (f1 n (kz_0 n (by decide))).trans e0
  have keep : ∀ k, k < n → L1[k]? = L[k]? := fun k hk => (f1 k (kz_k 1 hk)).trans (keep k hk)
  have x1 : L1[n + 1]? = some (q1, .inl (G.2.2.1, 6, .inl (fun _ => 0))) := g1
  refine k_putF (n := n + 2) (q0 := n) (j := 0) (ty0 := tyX4) hn e0 (ci := 4) rfl rfl td_in_4 tyX4_ok nmX4 (by decide) rfl rfl (td_in 408 (by decide +kernel) rfl) rfl rfl (Nat.le_of_ble_eq_true rfl) dX4_init_9 (fun L2 hn f2 g2 => ?_)
  have e0 : L2[n]? = some (a, .inr (4, [.ref q1, .null, .null, .int 0, .int 0, .int 0, .int 0])) := g2
  have x1 := (f2 _ (kz_ne n (by decide))).trans x1
  have keep : ∀ k, k < n → L2[k]? = L[k]? := fun k hk => (f2 k (kz_nk hk)).trans (keep k hk)
  refine k_aload_n 0 dX4_init_12 rfl ?_
  refine k_bipush (v := 6) dX4_init_13 (by decide) ?_
  refine k_newa (n := n + 2) (N := 6) hn kw_ai (by decide) (by decide) (by decide) (Nat.le_of_ble_eq_true rfl) (Nat.le_of_ble_eq_true rfl) dX4_init_15 (fun q2 L3 hn f3 g3 => ?_)
  have e0 : L3[n]? = some (a, .inr (4, [.ref q1, .null, .null, .int 0, .int 0, .int 0, .int 0])) := (f3 n (kz_0 n (by decide))).trans e0
  have x1 := (f3 _ (kz_a n (by decide))).trans x1
  have keep : ∀ k, k < n → L3[k]? = L[k]? := fun k hk => (f3 k (kz_k 2 hk)).trans (keep k hk)
  have x2 : L3[n + 2]? = some (q2, .inl (G.2.2.1, 6, .inl (fun _ => 0))) := g3
  refine k_putF (n := n + 3) (q0 := n) (j := 1) (ty0 := tyX4) hn e0 (ci := 4) rfl rfl td_in_4 tyX4_ok nmX4 (by decide) rfl rfl (td_in 409 (by decide +kernel) rfl) rfl rfl (Nat.le_of_ble_eq_true rfl) dX4_init_17 (fun L4 hn f4 g4 => ?_)
  have e0 : L4[n]? = some (a, .inr (4, [.ref q1, .ref q2, .null, .int 0, .int 0, .int 0, .int 0])) := g4
  have x1 := (f4 _ (kz_ne n (by decide))).trans x1
  have x2 := (f4 _ (kz_ne n (by decide))).trans x2
  have keep : ∀ k, k < n → L4[k]? = L[k]? := fun k hk => (f4 k (kz_nk hk)).trans (keep k hk)
  refine k_aload_n 0 dX4_init_20 rfl ?_
  refine k_bipush (v := 6) dX4_init_21 (by decide) ?_
  refine k_newa (n := n + 3) (N := 6) hn kw_ai (by decide) (by decide) (by decide) (Nat.le_of_ble_eq_true rfl) (Nat.le_of_ble_eq_true rfl) dX4_init_23 (fun q3 L5 hn f5 g5 => ?_)
  have e0 : L5[n]? = some (a, .inr (4, [.ref q1, .ref q2, .null, .int 0, .int 0, .int 0, .int 0])) := (f5 n (kz_0 n (by decide))).trans e0
  have x1 := (f5 _ (kz_a n (by decide))).trans x1
  have x2 := (f5 _ (kz_a n (by decide))).trans x2
  have keep : ∀ k, k < n → L5[k]? = L[k]? := fun k hk => (f5 k (kz_k 3 hk)).trans (keep k hk)
  have x3 : L5[n + 3]? = some (q3, .inl (G.2.2.1, 6, .inl (fun _ => 0))) := g5
  refine k_putF (n := n + 4) (q0 := n) (j := 2) (ty0 := tyX4) hn e0 (ci := 4) rfl rfl td_in_4 tyX4_ok nmX4 (by decide) rfl rfl (td_in 411 (by decide +kernel) rfl) rfl rfl (Nat.le_of_ble_eq_true rfl) dX4_init_25 (fun L6 hn f6 g6 => ?_)
  have e0 : L6[n]? = some (a, .inr (4, [.ref q1, .ref q2, .ref q3, .int 0, .int 0, .int 0, .int 0])) := g6
  have x1 := (f6 _ (kz_ne n (by decide))).trans x1
  have x2 := (f6 _ (kz_ne n (by decide))).trans x2
  have x3 := (f6 _ (kz_ne n (by decide))).trans x3
  have keep : ∀ k, k < n → L6[k]? = L[k]? := fun k hk => (f6 k (kz_nk hk)).trans (keep k hk)
  exact k_return rfl (Nat.le_of_ble_eq_true rfl) (Nat.le_of_ble_eq_true rfl) dX4_init_28 ⟨hn, keep, ⟨q1, q2, q3, e0, x1, x2, x3⟩⟩
def sheetAt (G : td_G) (L : va_W) (n a : Nat) : Prop := ∃ q1 : Nat, L[n]? = some (a, .inr (6, [.ref q1, .int (-1), .int 0])) ∧ L[n + 1]? = some (q1, .inl (G.2.2.1, 16, .inl (fun _ => 0)))
theorem sheetAt.mono {G : td_G} {L L2 : va_W} {n a : Nat} (h : sheetAt G L n a) (e : ∀ k, n ≤ k → k < n + 2 → L2[k]? = L[k]?) : sheetAt G L2 n a := by
  obtain ⟨q1, z0, z1⟩ := h
  exact ⟨q1, (e _ (by omega) (by omega)).trans z0, (e _ (by omega) (by omega)).trans z1⟩
theorem sheetAt.obj {G : td_G} {L : va_W} {n a : Nat} (h : sheetAt G L n a) : ∃ vs, L[n]? = some (a, .inr (6, vs)) := by
  obtain ⟨q1, z0, z1⟩ := h
  exact ⟨_, z0⟩
set_option maxRecDepth 20000 in
set_option maxHeartbeats 4000000 in
theorem c_ini_sheet {G : td_G} {L : va_W} {n a : Nat} (hn : L.length = n + 1) (e0 : L[n]? = some (a, .inr (6, [.null, .int 0, .int 0]))) : k_C G 1 1 16 mX6_init a L (fun L1 => L1.length = n + 2 ∧ (∀ k, k < n → L1[k]? = L[k]?) ∧ sheetAt G L1 n a) := by
  refine k_entry rfl (Nat.le_of_ble_eq_true rfl) rfl ?_
  have keep : ∀ k, k < n → L[k]? = L[k]? := fun _ _ => rfl
  refine k_aload_n 0 dX6_init_0 rfl ?_
  refine k_obj (td_in 474 (by decide +kernel) rfl) kw_oi kw_oc dX6_init_1 (Nat.le_of_ble_eq_true rfl) (Nat.le_of_ble_eq_true rfl) ?_
  refine k_aload_n 0 dX6_init_4 rfl ?_
  refine k_bipush (v := 16) dX6_init_5 (by decide) ?_
  refine k_newa (n := n + 1) (N := 16) hn kw_ai (by decide) (by decide) (by decide) (Nat.le_of_ble_eq_true rfl) (Nat.le_of_ble_eq_true rfl) dX6_init_7 (fun q1 L1 hn f1 g1 => ?_)
  have e0 : L1[n]? = some (a, .inr (6, [.null, .int 0, .int 0])) := (f1 n (kz_0 n (by decide))).trans e0
  have keep : ∀ k, k < n → L1[k]? = L[k]? := fun k hk => (f1 k (kz_k 1 hk)).trans (keep k hk)
  have x1 : L1[n + 1]? = some (q1, .inl (G.2.2.1, 16, .inl (fun _ => 0))) := g1
  refine k_putF (n := n + 2) (q0 := n) (j := 0) (ty0 := tyX6) hn e0 (ci := 6) rfl rfl td_in_6 tyX6_ok nmX6 (by decide) rfl rfl (td_in 475 (by decide +kernel) rfl) rfl rfl (Nat.le_of_ble_eq_true rfl) dX6_init_9 (fun L2 hn f2 g2 => ?_)
  have e0 : L2[n]? = some (a, .inr (6, [.ref q1, .int 0, .int 0])) := g2
  have x1 := (f2 _ (kz_ne n (by decide))).trans x1
  have keep : ∀ k, k < n → L2[k]? = L[k]? := fun k hk => (f2 k (kz_nk hk)).trans (keep k hk)
  refine k_aload_n 0 dX6_init_12 rfl ?_
  refine k_iconst (v := (-1)) dX6_init_13 (by decide) ?_
  refine k_put (n := n + 2) (q0 := n) (j := 1) (ty0 := tyX6) hn e0 (ci := 6) rfl td_in_6 tyX6_ok nmX6 (by decide) rfl rfl (td_in 476 (by decide +kernel) rfl) rfl rfl (Nat.le_of_ble_eq_true rfl) dX6_init_14 (fun L3 hn f3 g3 => ?_)
  have e0 : L3[n]? = some (a, .inr (6, [.ref q1, .int (-1), .int 0])) := g3
  have x1 := (f3 _ (kz_ne n (by decide))).trans x1
  have keep : ∀ k, k < n → L3[k]? = L[k]? := fun k hk => (f3 k (kz_nk hk)).trans (keep k hk)
  exact k_return rfl (Nat.le_of_ble_eq_true rfl) (Nat.le_of_ble_eq_true rfl) dX6_init_17 ⟨hn, keep, ⟨q1, e0, x1⟩⟩
