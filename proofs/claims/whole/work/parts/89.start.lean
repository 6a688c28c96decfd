/-! ===== THE MAKING ===== -/
theorem lw_making {G : td_G} {b Ln : Nat} {xs : Nat → Int32} (hL : Ln ≤ 3072) : k_J G room_1 mL_law (lwC G b Ln xs) lwQ 0 [(0, .ref b)] [] [] 0 0 := by
  refine k_new (n := 0) (fs := [.null, .null, .null, .null, .null, .null, .null, .int 0, .int 0]) tyX9 rfl (ci := 9) rfl td_in_9 tyX9_ok (td_in 126 (by decide +kernel) rfl) (td_in 127 (by decide +kernel) rfl) (td_in 106 (by decide +kernel) rfl) dv_X9 (Nat.le_of_ble_eq_true rfl) (Nat.le_of_ble_eq_true rfl) dL_law_0 (fun q L1 hn f g => ?_)
  refine k_dup dL_law_3 rfl ?_
  refine k_iniP (Mc := mX9_init) (d := 4) (mc := 84) (ms := 4477) (td_in 128 (by decide +kernel) rfl) (td_in 129 (by decide +kernel) rfl) (td_in 106 (by decide +kernel) rfl) (td_in 130 (by decide +kernel) rfl) rfl rfl no_X9_init ⟨(Nat.le_of_ble_eq_true rfl), (Nat.le_of_ble_eq_true rfl)⟩ ⟨(Nat.le_of_ble_eq_true rfl), (Nat.le_of_ble_eq_true rfl)⟩ dL_law_4 (Nat.le_of_ble_eq_true rfl) (c_ini_door (n := 0) hn g) (fun L2 hh => ?_)
  obtain ⟨h2, f2, g2⟩ := hh
  refine k_astore_n dL_law_7 (by decide) rfl ?_
  refine k_new (n := 85) (fs := [.null, .null, .int 0, .null, .null, .int 0, .int 0, .int 0, .null, .null, .null, .null, .null, .null, .null, .null, .null, .int 0, .int 0, .int 0, .int 0, .int 0, .int 0, .null, .null, .null, .null, .int 0, .null, .null, .null, .null]) tyX10 h2 (ci := 10) rfl td_in_10 tyX10_ok (td_in 1071 (by decide +kernel) rfl) (td_in 1072 (by decide +kernel) rfl) (td_in 117 (by decide +kernel) rfl) dv_X10 (Nat.le_of_ble_eq_true rfl) (Nat.le_of_ble_eq_true rfl) dL_law_8 (fun q2 L3 hn3 f3 g3 => ?_)
  refine k_dup dL_law_11 rfl ?_
  refine k_iniP (Mc := mX10_init) (d := 1) (mc := 21) (ms := 409) (td_in 1073 (by decide +kernel) rfl) (td_in 1074 (by decide +kernel) rfl) (td_in 117 (by decide +kernel) rfl) (td_in 1075 (by decide +kernel) rfl) rfl rfl no_X10_init ⟨(Nat.le_of_ble_eq_true rfl), (Nat.le_of_ble_eq_true rfl)⟩ ⟨(Nat.le_of_ble_eq_true rfl), (Nat.le_of_ble_eq_true rfl)⟩ dL_law_12 (Nat.le_of_ble_eq_true rfl) (c_ini_model (n := 85) hn3 g3) (fun L4 hh => ?_)
  obtain ⟨h4, f4, g4⟩ := hh
  refine k_astore_n dL_law_15 (by decide) rfl ?_
  refine k_iconst (v := nI 0) dL_law_16 rfl ?_
  refine k_istore_n dL_law_17 (by decide) rfl ?_
  have gd : doorAt G L4 0 q := (g2.mono (fun k _ z => f3 k (by omega))).mono (fun k _ z => f4 k (by omega))
  obtain ⟨y1, k1⟩ := ok_door_0 gd
  obtain ⟨y2, k2⟩ := ok_model_85 g4
  subst y1
  subst y2
  refine k_swap (lwKs.app (a := 85) (b := 22) k1 k2) ?_
  exact lw_loop (G := lwG G L4) (b := b) hL ⟨(Nat.le_of_ble_eq_true rfl), (Nat.le_of_ble_eq_true rfl)⟩ (fun j h => lw_fin ⟨(Nat.le_of_ble_eq_true rfl), (Nat.le_of_ble_eq_true rfl)⟩) Ln 0 sA h0A (Nat.zero_le _) (by omega) h0A_D h0A_M
/-! ===== WHAT THE START SAYS ===== -/
theorem lw_tb {args : Array Value} {s : State} {A : Nat → Prop} (n : String) (N : Nat) (vs : List Int32) (hN2 : N < 2 ^ 31) (hlay : (Cond.laysStatic RX9 n "[I").before args s = true) (hini : (Cond.initialized RX9).before args s = true) (harr : (Cond.arrayOf (.static RX9 n "[I") .int).before args s = true) (hlen : (Cond.eq (.length (.static RX9 n "[I")) (.int (Int32.ofNat N))).before args s = true) (hel : ∀ j, j < N → (Cond.eq (.elem (.static RX9 n "[I") (.int (Int32.ofNat j))) (.int (vs.getD j 0))).before args s = true) (hA : ∀ a : Nat, a < s.heap.size → ¬ A a) : ∃ t : Nat, va_Z RX9 n "[I" (.ref t) A s s.heap ∧ va_T .int t N (fun j => .int (vs.getD j 0)) A s s.heap := by
  obtain ⟨t, ht, hT⟩ := va_Tof (f := fun j => .int (vs.getD j 0)) hN2 harr (va_eqt hlen) (fun j hj => va_eqt (hel j hj)) hA
  exact ⟨t, va_Zof hlay hini ht hA, hT⟩
abbrev lwF : List Cond := flatC (Jvm.Cond.and given_1 narrow_1)
abbrev lwS (i : Nat) : Term := .static RX9 (td_sn i) "[I"
set_option maxRecDepth 100000 in
theorem lwF_a : ∀ i, i < 5 → Cond.arrayOf (lwS i) .int ∈ lwF := by decide +kernel
set_option maxRecDepth 100000 in
theorem lwF_l : ∀ i, i < 5 → Cond.eq (.length (lwS i)) (.int (Int32.ofNat (td_st i).length)) ∈ lwF := by decide +kernel
set_option maxRecDepth 100000 in
theorem lwF_e : ∀ i, i < 5 → ∀ j, j < (td_st i).length → Cond.eq (.elem (lwS i) (.int (Int32.ofNat j))) (.int ((td_st i).getD j 0)) ∈ lwF := by decide +kernel
set_option maxRecDepth 100000 in
theorem lwF_z : ∀ i, i < 5 → Cond.laysStatic RX9 (td_sn i) "[I" ∈ lw_tbl := by decide +kernel
theorem td_st_n : ∀ i, i < 5 → (td_st i).length < 2 ^ 31 := by decide +kernel
abbrev lwT : Term := .string RX7 64
set_option maxRecDepth 100000 in
theorem lwF_s : Cond.exactly lwT "java/lang/String" ∈ lwF ∧ Cond.eq (.field lwT "java/lang/String" "coder" "B") (.int 0) ∈ lwF ∧ Cond.arrayOf (.field lwT "java/lang/String" "value" "[B") .byte ∈ lwF ∧ Cond.eq (.length (.field lwT "java/lang/String" "value" "[B")) (.int (Int32.ofNat 6)) ∈ lwF ∧ Cond.eq (.static RJ0 "COMPACT_STRINGS" "Z") (.int 1) ∈ lwF := by decide +kernel
set_option maxRecDepth 100000 in
theorem lwF_b : ∀ j, j < 6 → Cond.eq (.elem (.field lwT "java/lang/String" "value" "[B") (.int (Int32.ofNat j))) (.int ((([[119, 98, 116, 99, 104, 100]] : List (List Int32)).getD 0 []).getD j 0)) ∈ lwF := by decide +kernel
theorem lw_one {adK adV : Nat → Nat} {A : Nat → Prop} {U : State} {H : Heap} {len : List Nat} {byt : List (List Int32)} (h : vk_S 1 len byt adK adV A U H) : vk_S 1 len byt (fun _ => adK 0) (fun _ => adV 0) A U H := by
  refine ⟨fun i hi => ?_, fun i j hi hj _ => by omega⟩
  have e : i = 0 := by omega
  subst e
  exact h.1 0 hi
theorem lw_arr {s : State} {cA comp : ClassId} {k : Class} {ty : FieldType} (h1 : s.vm.classes[cA]? = some k) (h2 : k.kind = .array comp ty) : ArrOfT s cA ty := fun n z => ⟨(fun q h => nomatch h), k, h1, comp, h2⟩
def lwA0 (t : Nat → Nat) (k v : Nat) : Nat → Nat := fun n => if n = 2000 then k else if n = 2001 then v else t (n - 1000)
theorem lw_start0 {s : State} {b : Nat} (l : Launch) (hts : ∀ w ∈ lw_tbl, w.before #[Value.ref b] s = true) (hgv : (Jvm.Cond.and given_1 narrow_1).before #[Value.ref b] s = true) : ∃ G : td_G, G.1 = l ∧ G.2.2.2.2.2 = s.heap.size ∧ td_K G s ∧ td_T G s s.heap := by
  have hs := flat_of_before _ hgv
  have htA : ∀ w ∈ td_all, w.before #[Value.ref b] s = true := fun w hw => hts w (List.mem_filter.mp hw).1
  have hA : ∀ a : Nat, a < s.heap.size → ¬ (fun q : Nat => s.heap.size ≤ q) a := fun a h => Nat.not_le.mpr h
  obtain ⟨c0, i0, K0⟩ := u_known (C := RX0) (T := TX0) (N := 15) (n := 15) htA td_in_0 (htA (.instantiable RX0 15) (td_in 215 (by decide +kernel) rfl))
  obtain ⟨c1, i1, K1⟩ := u_known (C := RX1) (T := TX1) (N := 12) (n := 12) htA td_in_1 (htA (.instantiable RX1 12) (td_in 221 (by decide +kernel) rfl))
  obtain ⟨c2, i2, K2⟩ := u_known (C := RX2) (T := TX2) (N := 6) (n := 6) htA td_in_2 (htA (.instantiable RX2 6) (td_in 274 (by decide +kernel) rfl))
  obtain ⟨c3, i3, K3⟩ := u_known (C := RX3) (T := TX3) (N := 5) (n := 5) htA td_in_3 (htA (.instantiable RX3 5) (td_in 366 (by decide +kernel) rfl))
  obtain ⟨c4, i4, K4⟩ := u_known (C := RX4) (T := TX4) (N := 7) (n := 7) htA td_in_4 (htA (.instantiable RX4 7) (td_in 403 (by decide +kernel) rfl))
  obtain ⟨c5, i5, K5⟩ := u_known (C := RX5) (T := TX5) (N := 5) (n := 5) htA td_in_5 (htA (.instantiable RX5 5) (td_in 135 (by decide +kernel) rfl))
  obtain ⟨c6, i6, K6⟩ := u_known (C := RX6) (T := TX6) (N := 3) (n := 3) htA td_in_6 (htA (.instantiable RX6 3) (td_in 470 (by decide +kernel) rfl))
  obtain ⟨c7, i7, K7⟩ := u_known (C := RX7) (T := TX7) (N := 7) (n := 7) htA td_in_7 (htA (.instantiable RX7 7) (td_in 180 (by decide +kernel) rfl))
  obtain ⟨c8, i8, K8⟩ := u_known (C := RX8) (T := TX8) (N := 11) (n := 11) htA td_in_8 (htA (.instantiable RX8 11) (td_in 393 (by decide +kernel) rfl))
  obtain ⟨c9, i9, K9⟩ := u_known (C := RX9) (T := TX9) (N := 9) (n := 9) htA td_in_9 (htA (.instantiable RX9 9) (td_in 127 (by decide +kernel) rfl))
  obtain ⟨c10, i10, K10⟩ := u_known (C := RX10) (T := TX10) (N := 32) (n := 32) htA td_in_10 (htA (.instantiable RX10 32) (td_in 1072 (by decide +kernel) rfl))
  obtain ⟨dC, dI, hKc⟩ : ∃ (dC : Nat → ClassId) (dI : Nat → Nat → Nat), ∀ (k : Nat) (q : vw_C), vwCl[k]? = some q → u_Kn s q.1 q.2.1 q.2.2 (dC k) (dI k) := by
    refine ⟨fun k => [c0, c1, c2, c3, c4, c5, c6, c7, c8, c9, c10].getD k c0, fun k => [i0, i1, i2, i3, i4, i5, i6, i7, i8, i9, i10].getD k i0, ?_⟩
    intro k q hq
    match k, hq with
    | 0, hq => cases hq; exact K0
    | 1, hq => cases hq; exact K1
    | 2, hq => cases hq; exact K2
    | 3, hq => cases hq; exact K3
    | 4, hq => cases hq; exact K4
    | 5, hq => cases hq; exact K5
    | 6, hq => cases hq; exact K6
    | 7, hq => cases hq; exact K7
    | 8, hq => cases hq; exact K8
    | 9, hq => cases hq; exact K9
    | 10, hq => cases hq; exact K10
    | k + 11, hq => exact absurd hq (by rw [List.getElem?_eq_none (Nat.le_add_left 11 k)]; intro z; cases z)
  obtain ⟨cI, kI, cpI, eI1, eI2, eI3⟩ := Cond.arrayClass_spec (type := .int) (hts _ (List.mem_of_getElem? (i := 178) (by decide +kernel)))
  obtain ⟨cpS, cS, kS, eS1, _, eS2, eS3, eS4⟩ := Cond.arrayOver_spec (n := RX6) (hts _ (List.mem_of_getElem? (i := 213) (by decide +kernel)))
  have hst : ∀ i, ∃ t : Nat, i < 5 → va_Z RX9 (td_sn i) "[I" (.ref t) (fun q : Nat => s.heap.size ≤ q) s s.heap ∧ va_T .int t (td_st i).length (fun j => .int ((td_st i).getD j 0)) (fun q : Nat => s.heap.size ≤ q) s s.heap := by
    intro i
    by_cases hi : i < 5
    · obtain ⟨t, ht⟩ := lw_tb (td_sn i) (td_st i).length (td_st i) (td_st_n i hi) (hts _ (lwF_z i hi)) (htA _ (td_in 106 (by decide +kernel) rfl)) (hs _ (lwF_a i hi)) (hs _ (lwF_l i hi)) (fun j hj => hs _ (lwF_e i hi j hj)) hA
      exact ⟨t, fun _ => ht⟩
    · exact ⟨0, fun z => absurd z hi⟩
  let t : Nat → Nat := fun i => (hst i).choose
  have ht : ∀ i, i < 5 → va_Z RX9 (td_sn i) "[I" (.ref (t i)) (fun q : Nat => s.heap.size ≤ q) s s.heap ∧ va_T .int (t i) (td_st i).length (fun j => .int ((td_st i).getD j 0)) (fun q : Nat => s.heap.size ≤ q) s s.heap := fun i hi => (hst i).choose_spec hi
  obtain ⟨s1, s2, s3, s4, s5⟩ := lwF_s
  have z1 : ∀ i : Nat, i < 1 → i = 0 := fun i hi => by omega
  have zn : ∀ i : Nat, i < 1 → ([6] : List Nat).getD i 0 < 2 ^ 31 := fun i hi => by rw [z1 i hi]; decide
  have zl : ∀ i : Nat, i < 1 → (Cond.eq (.length (.field lwT "java/lang/String" "value" "[B")) (.int (Int32.ofNat (([6] : List Nat).getD i 0)))).before #[Value.ref b] s = true := fun i hi => by rw [z1 i hi]; exact hs _ s4
  have ze : ∀ i : Nat, i < 1 → ∀ j : Nat, j < ([6] : List Nat).getD i 0 → (Cond.eq (.elem (.field lwT "java/lang/String" "value" "[B") (.int (Int32.ofNat j))) (.int ((([[119, 98, 116, 99, 104, 100]] : List (List Int32)).getD i []).getD j 0))).before #[Value.ref b] s = true := fun i hi j hj => by
    have e := z1 i hi
    subst e
    exact hs _ (lwF_b j hj)
  obtain ⟨adK, adV, hS, hK⟩ := vk_Sof (N := 1) (tm := fun _ => lwT) (len := [6]) (byt := [[119, 98, 116, 99, 104, 100]]) (A := fun q : Nat => s.heap.size ≤ q) zn (fun _ _ => hs _ s1) (fun _ _ => hs _ s2) (fun _ _ => hs _ s3) zl ze (fun i j hi hj z => absurd ((z1 i hi).trans (z1 j hj).symm) z) hA
  refine ⟨(l, (dC, dI), cI, cS, lwA0 t (adK 0) (adV 0), s.heap.size), rfl, rfl, ⟨⟨hKc, fun k q hq => ?_⟩, fun w hw => ?_⟩, fun i hi => ?_, ?_, lw_one hS, vk_R.of (hts _ (List.mem_of_getElem? (i := 629) (by decide +kernel))) (hK 0 (by decide))⟩
  · match k, hq with
    | 0, hq => cases hq; exact ⟨lw_arr eI2 eI3, eI1⟩
    | 1, hq => cases hq; exact ⟨lw_arr eS2 eS3, kS, cpS, eS2, eS3, eS1, eS4⟩
    | k + 2, hq => cases hq
  · have h2 := (List.mem_filter.mp hw).2
    have h1 := hts w (List.mem_append_right _ (List.mem_filter.mp hw).1)
    cases w <;> first | exact va_Nw.of rfl h1 | cases h2
  · show va_Z RX9 (td_sn i) "[I" (.ref (lwA0 t (adK 0) (adV 0) (1000 + i))) _ s s.heap ∧ va_T .int (lwA0 t (adK 0) (adV 0) (1000 + i)) _ _ _ s s.heap
    rw [show lwA0 t (adK 0) (adV 0) (1000 + i) = t i by unfold lwA0; rw [if_neg (by omega), if_neg (by omega), Nat.add_sub_cancel_left]]
    exact ht i hi
  · exact va_Zof (hts _ (List.mem_of_getElem? (i := 643) (by decide +kernel))) (hts _ (List.mem_of_getElem? (i := 119) (by decide +kernel))) (va_eqi (hs _ s5)) hA
theorem whole_start {p : Program} {e : Env} {s : State} {m : MethodId} {below : List Frame} {meth : Method} {c : Code} (l : Launch) {b L : Nat} {xs : Nat → Int32} (hL : L ≤ 3072) (C0 : lw_At p s m meth c b L xs) : W p l e room_1 s m #[Value.ref b] below meth c s.heap [] 0 0 (lw_Z below #[Value.ref b] s) (entryFrame m ([Value.ref b] : List Value).toArray 4) := by
  obtain ⟨hx, hb, hr, hml, hown, hts, hX, hbl, hlocks, hgv⟩ := C0
  obtain ⟨G, rfl, hG, hK, hT⟩ := lw_start0 l hts hgv
  have hl := lv_entry ([.ref b]) (n := 4) (Nat.le_of_ble_eq_true rfl)
  rw [lg_entry_eq]
  refine lw_making (G := G) (b := b) (Ln := L) (xs := xs) hL p e s m #[Value.ref b] below meth c s.heap [] _ ⟨hx, hb, hr, hml, hown, fun w hw => hts w (List.mem_filter.mp hw).1, hlocks, hK, hT, va_AO.of (hts _ (List.mem_of_getElem? (i := 213) (by decide +kernel))), Nat.le_of_eq hG, fun k q h => ?_, ⟨fun i j p q h => ?_, fun k q h => ?_⟩, va_S.rf⟩ ⟨rfl, hX, hbl, hG⟩ hl
  · cases h
  · cases h
  · cases h
