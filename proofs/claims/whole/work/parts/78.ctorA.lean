/-! ===== MAKING: worlds as lists; a standing within a constructor, or within the law ===== -/
def k_Wd (G : td_G) (L : va_W) (U : State) : Prop := va_P G.2.1 vwCl L U.heap ∧ va_D (td_A G) L ∧ td_K G U ∧ td_T G U U.heap ∧ va_AO RX6 U ∧ G.2.2.2.2.2 ≤ U.heap.size
def k_Q (G : td_G) (Post : va_W → Prop) : Array Value → State → Outcome → State → Prop := fun _ st oc t => (oc = .returned none ∧ ∃ L : va_W, Post L ∧ k_Wd G L t) ∧ va_F (td_A G) st t
def k_rm (d mc ms : Nat) : Room := { frames := d, cells := mc, slots := ms, locals := 40 * d }
def k_C (G : td_G) (d mc ms : Nat) (M : td_M) (a : Nat) (L : va_W) (Post : va_W → Prop) : Prop := Met G.1 M.1 (td_wl M) (k_rm d mc ms) (va_Pc [.ref a] (k_Wd G L)) (k_Q G Post) mc ms (td_A G)
def k_X (G : td_G) (M : td_M) (L : va_W) (p : Program) (s : State) (m : MethodId) (args : Array Value) (meth : Method) (c : Code) (H : Heap) (locs : List Loc) : Prop :=
  p.tables.exec = Jvm.exec ∧ c.code = M.2.1 ∧ meth.sig.returnType = M.2.2.2 ∧ c.maxLocals = M.2.2.1 ∧ s.vm.findClass M.1.cls = some m.cls ∧ (∀ w ∈ td_all, w.before args s = true) ∧ meth.locks = false ∧ td_K G s ∧ td_T G s s.heap ∧ va_AO RX6 s ∧ G.2.2.2.2.2 ≤ s.heap.size ∧
  va_P G.2.1 vwCl L H ∧ va_D (td_A G) L ∧ va_S (td_A G) s.heap H locs
abbrev k_Qf : Type := List Frame → Array Value → State → State → Prop
abbrev k_Cx : Type := State → Array Value → Method → Prop
def k_J (G : td_G) (R : Room) (M : td_M) (Cx : k_Cx) (Qf : k_Qf) (pc : Nat) (lv : List (Nat × Value)) (st : List Value) (L : va_W) (cc sl : Nat) : Prop :=
  ∀ (p : Program) (e : Env) (s : State) (m : MethodId) (args : Array Value) (below : List Frame) (meth : Method) (c : Code) (H : Heap) (locs : List Loc) (ls : Array Slot), k_X G M L p s m args meth c H locs → Cx s args meth → lv_has ls M.2.2.1 lv →
    W p G.1 e R s m args below meth c H locs cc sl (Qf below args s) (F0 m pc ls st)
def k_ini : k_Cx := fun _ _ meth => meth.name = "<init>"
def k_end (G : td_G) (Post : va_W → Prop) (mc ms : Nat) : k_Qf := fun below args s => MQ below (k_Q G Post) args s mc ms (td_A G)
section KJ
variable {G : td_G} {R : Room} {M : td_M} {Cx : k_Cx} {Qf : k_Qf} {pc : Nat} {lv lv2 : List (Nat × Value)} {st : List Value} {L : va_W} {cc sl : Nat}
theorem k_entry {d mc ms a : Nat} {Post : va_W → Prop} (hy : plainName M.1.cls = true) (hn : 1 ≤ M.2.2.1) (hi : M.1.name = "<init>") (k : k_J G (k_rm d mc ms) M k_ini (k_end G Post mc ms) 0 [(0, .ref a)] [] L 0 0) : k_C G d mc ms M a L Post := by
  refine Met.ofW (cc := M.2.1) (maxL := M.2.2.1) (ret := M.2.2.2) hy rfl ?_
  intro p e s m args below meth c s₁ B hml hv
  obtain ⟨rfl, hP, hD, hK, hT, hO, hz⟩ := hv
  have hts := atoms_spec (ws := td_wl M) B.pre
  have hl2 := lv_entry ([.ref a]) (n := M.2.2.1) hn
  rw [lg_entry_eq]
  exact k p e s m _ below meth c s.heap [] _ ⟨B.exec, B.bytes, B.returns, hml, findClass_of_methodNamed B.named, fun w hw => hts w (List.mem_cons_of_mem _ hw), B.notSynchronized, hK, hT, hO, hz, hP, hD, va_S.rf⟩ ((name_of_methodNamed B.named B.method).1.trans hi) hl2
theorem k_aload_n {i : Fin 4} {x : Nat} (pos : Nat) (hd : decode M.2.1 pc = .ok (.aload_n i, 1)) (hk : lv[pos]? = some (i.val, .ref x)) (k : k_J G R M Cx Qf (pc + 1) lv (.ref x :: st) L cc sl) : k_J G R M Cx Qf pc lv st L cc sl := fun p e s m args below meth c H locs ls X hc hl => lv_aload_n X.1 X.2.1 hd rfl (lv_at hl pos hk) (k p e s m args below meth c H locs ls X hc hl)
theorem k_iload_n {i : Fin 4} {x : Int32} (pos : Nat) (hd : decode M.2.1 pc = .ok (.iload_n i, 1)) (hk : lv[pos]? = some (i.val, .int x)) (k : k_J G R M Cx Qf (pc + 1) lv (.int x :: st) L cc sl) : k_J G R M Cx Qf pc lv st L cc sl := fun p e s m args below meth c H locs ls X hc hl => lv_iload_n X.1 X.2.1 hd rfl (lv_at hl pos hk) (k p e s m args below meth c H locs ls X hc hl)
theorem k_iconst {n : Int} {v : Int32} (hd : decode M.2.1 pc = .ok (.iconst n, 1)) (hv : Int32.ofInt n = v) (k : k_J G R M Cx Qf (pc + 1) lv (.int v :: st) L cc sl) : k_J G R M Cx Qf pc lv st L cc sl := fun p e s m args below meth c H locs ls X hc hl => lv_iconst X.1 X.2.1 hd hv (k p e s m args below meth c H locs ls X hc hl)
theorem k_bipush {n : Int} {v : Int32} (hd : decode M.2.1 pc = .ok (.bipush n, 2)) (hv : (Int8.ofInt n).toInt32 = v) (k : k_J G R M Cx Qf (pc + 2) lv (.int v :: st) L cc sl) : k_J G R M Cx Qf pc lv st L cc sl := fun p e s m args below meth c H locs ls X hc hl => lv_bipush X.1 X.2.1 hd hv (k p e s m args below meth c H locs ls X hc hl)
theorem k_sipush {n : Int} {v : Int32} (hd : decode M.2.1 pc = .ok (.sipush n, 3)) (hv : (Int16.ofInt n).toInt32 = v) (k : k_J G R M Cx Qf (pc + 3) lv (.int v :: st) L cc sl) : k_J G R M Cx Qf pc lv st L cc sl := fun p e s m args below meth c H locs ls X hc hl => lv_sipush X.1 X.2.1 hd hv (k p e s m args below meth c H locs ls X hc hl)
theorem k_dup {v : Value} (hd : decode M.2.1 pc = .ok (.dup, 1)) (hv : v.category = 1) (k : k_J G R M Cx Qf (pc + 1) lv (v :: v :: st) L cc sl) : k_J G R M Cx Qf pc lv (v :: st) L cc sl := fun p e s m args below meth c H locs ls X hc hl => lv_dup X.1 X.2.1 hd hv (k p e s m args below meth c H locs ls X hc hl)
theorem k_lset {ls : Array Slot} {n i : Nat} {v : Value} (h : lv_has ls n ((i, v) :: lv.filter (fun q => !(q.1 == i) && !(q.1 + 1 == i && q.2.category == 2)))) (e : td_ls lv i v = lv2) : lv_has ls n lv2 := by
  refine ⟨h.1, h.2.1, fun q hq => h.2.2 q ?_⟩
  subst e
  rcases td_ins_mem hq with e | e
  · subst e
    exact List.mem_cons_self
  · exact List.mem_cons_of_mem _ e
theorem k_istore_n {i : Fin 4} {x : Int32} (hd : decode M.2.1 pc = .ok (.istore_n i, 1)) (hn : i.val < M.2.2.1) (hl2 : td_ls lv i.val (.int x) = lv2) (k : k_J G R M Cx Qf (pc + 1) lv2 st L cc sl) : k_J G R M Cx Qf pc lv (.int x :: st) L cc sl := fun p e s m args below meth c H locs ls X hc hl => lv_istore_n X.1 X.2.1 hd rfl hl hn rfl (fun ls2 h2 => k p e s m args below meth c H locs ls2 X hc (k_lset (v := .int x) h2 hl2))
theorem k_astore_n {i : Fin 4} {x : Nat} (hd : decode M.2.1 pc = .ok (.astore_n i, 1)) (hn : i.val < M.2.2.1) (hl2 : td_ls lv i.val (.ref x) = lv2) (k : k_J G R M Cx Qf (pc + 1) lv2 st L cc sl) : k_J G R M Cx Qf pc lv (.ref x :: st) L cc sl := fun p e s m args below meth c H locs ls X hc hl => lv_astore_n X.1 X.2.1 hd rfl hl hn rfl (fun ls2 h2 => k p e s m args below meth c H locs ls2 X hc (k_lset (v := .ref x) h2 hl2))
theorem k_iinc {i : Nat} {n : Int} {x v : Int32} (pos : Nat) (hd : decode M.2.1 pc = .ok (.iinc i n, 3)) (hk : lv[pos]? = some (i, .int x)) (hv : x + Int32.ofInt n = v) (hn : i < M.2.2.1) (hl2 : td_ls lv i (.int v) = lv2) (k : k_J G R M Cx Qf (pc + 3) lv2 st L cc sl) : k_J G R M Cx Qf pc lv st L cc sl := fun p e s m args below meth c H locs ls X hc hl => lv_iinc X.1 X.2.1 hd hl (k := pos) hk hv hn rfl (fun ls2 h2 => k p e s m args below meth c H locs ls2 X hc (k_lset (v := .int v) h2 hl2))
theorem k_goto {off : Int} {tgt : Nat} (hd : decode M.2.1 pc = .ok (.goto off, 3)) (ht : (pc : Int) + off = (tgt : Int)) (k : k_J G R M Cx Qf tgt lv st L cc sl) : k_J G R M Cx Qf pc lv st L cc sl := fun p e s m args below meth c H locs ls X hc hl => lv_goto X.1 X.2.1 hd ht (k p e s m args below meth c H locs ls X hc hl)
theorem k_icmp_ge {x y : Int32} {off : Int} {tgt : Nat} (hd : decode M.2.1 pc = .ok (.if_icmp .ge off, 3)) (ht : (pc : Int) + off = (tgt : Int)) (kt : y ≤ x → k_J G R M Cx Qf tgt lv st L cc sl) (kf : ¬ y ≤ x → k_J G R M Cx Qf (pc + 3) lv st L cc sl) : k_J G R M Cx Qf pc lv (.int y :: .int x :: st) L cc sl := fun p e s m args below meth c H locs ls X hc hl => lv_icmp_ge X.1 X.2.1 hd ht (fun q => kt q p e s m args below meth c H locs ls X hc hl) (fun q => kf q p e s m args below meth c H locs ls X hc hl)
theorem k_icmp_gt {x y : Int32} {off : Int} {tgt : Nat} (hd : decode M.2.1 pc = .ok (.if_icmp .gt off, 3)) (ht : (pc : Int) + off = (tgt : Int)) (kt : y < x → k_J G R M Cx Qf tgt lv st L cc sl) (kf : ¬ y < x → k_J G R M Cx Qf (pc + 3) lv st L cc sl) : k_J G R M Cx Qf pc lv (.int y :: .int x :: st) L cc sl := fun p e s m args below meth c H locs ls X hc hl => lv_icmp_gt X.1 X.2.1 hd ht (fun q => kt q p e s m args below meth c H locs ls X hc hl) (fun q => kf q p e s m args below meth c H locs ls X hc hl)
theorem k_icmp_eq {x y : Int32} {off : Int} {tgt : Nat} (hd : decode M.2.1 pc = .ok (.if_icmp .eq off, 3)) (ht : (pc : Int) + off = (tgt : Int)) (kt : x = y → k_J G R M Cx Qf tgt lv st L cc sl) (kf : ¬ x = y → k_J G R M Cx Qf (pc + 3) lv st L cc sl) : k_J G R M Cx Qf pc lv (.int y :: .int x :: st) L cc sl := fun p e s m args below meth c H locs ls X hc hl => lv_icmp_eq X.1 X.2.1 hd ht (fun q => kt q p e s m args below meth c H locs ls X hc hl) (fun q => kf q p e s m args below meth c H locs ls X hc hl)
theorem k_obj {idx a : Nat} (w1 : Cond.methodLink M.1.cls idx Lib.objectInit ∈ td_all) (w2 : Cond.instanceMethod Lib.objectInit ∈ td_all) (w3 : Cond.code Lib.objectInit ⟨#[0xb1]⟩ 1 none ∈ td_all) (hd : decode M.2.1 pc = .ok (.invokespecial idx, 3)) (hf : 1 ≤ R.frames) (hlo : (st.map fun v => v.category).sum + 12 ≤ R.locals) (k : k_J G R M Cx Qf (pc + 3) lv st L cc sl) : k_J G R M Cx Qf pc lv (.ref a :: st) L cc sl := by
  intro p e s m args below meth c H locs ls X hc hl
  refine W.objInit X.1 X.2.1 X.2.2.2.2.1 (X.2.2.2.2.2.1 _ w1) (X.2.2.2.2.2.1 _ w2) (X.2.2.2.2.2.1 _ w3) rfl (by rw [X.2.2.2.1]; exact hl.1) rfl hd hf (by show 2 * 0 + _ + 12 ≤ _; omega) ?_
  exact W.eq (g2 := F0 m (pc + 3) ls st) rfl (k p e s m args below meth c H locs ls X hc hl)
theorem k_app {L : va_W} {n : Nat} (hn : L.length = n) (x : Nat × va_E) : (L ++ [x]).length = n + 1 ∧ (∀ k, k < n → (L ++ [x])[k]? = L[k]?) ∧ (L ++ [x])[n]? = some x := by
  subst hn
  refine ⟨by simp, fun k hk => List.getElem?_append_left hk, ?_⟩
  rw [List.getElem?_append_right (Nat.le_refl _), Nat.sub_self]
  rfl
theorem k_st {L : va_W} {n k : Nat} {y : Nat × va_E} (hn : L.length = n) (hk : L[k]? = some y) (x : Nat × va_E) : (L.set k x).length = n ∧ (∀ j, j ≠ k → (L.set k x)[j]? = L[j]?) ∧ (L.set k x)[k]? = some x := by
  refine ⟨by rw [List.length_set]; exact hn, fun j hj => ?_, ?_⟩
  · rw [List.getElem?_set, if_neg (fun e => hj e.symm)]
  · rw [List.getElem?_set, if_pos rfl, if_pos (List.getElem?_eq_some_iff.mp hk).1]
theorem k_X.to {p : Program} {s : State} {m : MethodId} {args : Array Value} {meth : Method} {c : Code} {H H1 : Heap} {locs locs1 : List Loc} {L1 : va_W} (X : k_X G M L p s m args meth c H locs) (hP : va_P G.2.1 vwCl L1 H1) (hD : va_D (td_A G) L1) (hS : va_S (td_A G) s.heap H1 locs1) : k_X G M L1 p s m args meth c H1 locs1 := by
  obtain ⟨a1, a2, a3, a4, a5, a6, a7, a8, a9, a10, a11, a12, a13, a14⟩ := X
  exact ⟨a1, a2, a3, a4, a5, a6, a7, a8, a9, a10, a11, hP, hD, hS⟩
theorem k_new {C : String} {T : u_T} {N ci index n : Nat} {fs : List Value} (ty : Nat → FieldType) (hn : L.length = n) (hcl : vwCl[ci]? = some (C, T, N)) (hin : ∀ w ∈ u_ws C T N, w ∈ td_all) (hty : ∀ k, k < N → parseFieldDescriptor (T k).2.2.1 = some (ty k)) (w1 : Cond.classLink M.1.cls index C ∈ td_all) (w2 : Cond.instantiable C N ∈ td_all) (w3 : Cond.initialized C ∈ td_all) (hfs : ∀ j, j < N → defaultValue (ty j) = vp_V fs j) (hc1 : cc + 1 ≤ R.cells) (hs1 : sl + N ≤ R.slots) (hd : decode M.2.1 pc = .ok (.new index, 3))
    (kk : ∀ (q : Nat) (L1 : va_W), L1.length = n + 1 → (∀ k, k < n → L1[k]? = L[k]?) → L1[n]? = some (q, .inr (ci, fs)) → k_J G R M Cx Qf (pc + 3) lv (.ref q :: st) L1 (cc + 1) (sl + N)) : k_J G R M Cx Qf pc lv st L cc sl := by
  intro p e s m args below meth c H locs ls X hc hl
  have X0 := X
  obtain ⟨a1, a2, a3, a4, a5, a6, a7, a8, a9, a10, a11, a12, a13, a14⟩ := X
  refine va_new a1 a2 a6 hin ty hty a5 (a6 _ w1) (a6 _ w2) (a6 _ w3) a8.1 a12 a13 a14 (fun q hq => Nat.le_trans a11 hq) hcl hfs hc1 hs1 hd (fun q H1 hP hD hS => ?_)
  obtain ⟨b1, b2, b3⟩ := k_app hn (q, .inr (ci, fs))
  exact kk q _ b1 b2 b3 p e s m args below meth c H1 locs ls (X0.to hP hD hS) hc hl
theorem k_newa {n N : Nat} {i : Int32} (hn : L.length = n) (w1 : Cond.arrayClass .int ∈ td_all) (h0 : ¬ i < 0) (hN : i.toNatClampNeg = N) (hb : N * 4 ≤ 536870912) (hc1 : cc + 1 ≤ R.cells) (hs1 : sl + N ≤ R.slots) (hd : decode M.2.1 pc = .ok (.newarray .int, 2))
    (kk : ∀ (q : Nat) (L1 : va_W), L1.length = n + 1 → (∀ k, k < n → L1[k]? = L[k]?) → L1[n]? = some (q, .inl (G.2.2.1, N, .inl (fun _ => 0))) → k_J G R M Cx Qf (pc + 2) lv (.ref q :: st) L1 (cc + 1) (sl + N)) : k_J G R M Cx Qf pc lv (.int i :: st) L cc sl := by
  intro p e s m args below meth c H locs ls X hc hl
  have X0 := X
  obtain ⟨a1, a2, a3, a4, a5, a6, a7, a8, a9, a10, a11, a12, a13, a14⟩ := X
  refine va_newa (atype := .int) (ty := .int) (a0 := (N, .inl (fun _ => 0))) a1 a2 (a6 _ w1) rfl a8.1 a12 a13 a14 (fun q hq => Nat.le_trans a11 hq) (fun cA => by rw [vp_cell_i]; rfl) h0 hN hb hc1 hs1 hd (fun q cA H1 hK hP hD hS => ?_)
  have ec : cA = G.2.2.1 := by
    have e1 := (a8.1.2 0 _ rfl).2
    have e2 := (hK.2 2 _ rfl).2
    exact Option.some.inj (Eq.trans (Eq.symm e2) e1)
  subst ec
  obtain ⟨b1, b2, b3⟩ := k_app hn (q, .inl (G.2.2.1, N, .inl (fun _ => 0)))
  exact kk q _ b1 b2 b3 p e s m args below meth c H1 locs ls (X0.to hP hD hS) hc hl
theorem k_newq {n N index : Nat} {i : Int32} (hn : L.length = n) (w1 : Cond.classLink M.1.cls index RX6 ∈ td_all) (h0 : ¬ i < 0) (hN : i.toNatClampNeg = N) (hb : N * 4 ≤ 536870912) (hc1 : cc + 1 ≤ R.cells) (hs1 : sl + N ≤ R.slots) (hd : decode M.2.1 pc = .ok (.anewarray index, 3))
    (kk : ∀ (q : Nat) (L1 : va_W), L1.length = n + 1 → (∀ k, k < n → L1[k]? = L[k]?) → L1[n]? = some (q, .inl (G.2.2.2.1, N, .inr (.inr (.inr (.inr (fun _ => none)))))) → k_J G R M Cx Qf (pc + 3) lv (.ref q :: st) L1 (cc + 1) (sl + N)) : k_J G R M Cx Qf pc lv (.int i :: st) L cc sl := by
  intro p e s m args below meth c H locs ls X hc hl
  have X0 := X
  obtain ⟨a1, a2, a3, a4, a5, a6, a7, a8, a9, a10, a11, a12, a13, a14⟩ := X
  refine va_newq a1 a2 a5 (a6 _ w1) a10 a8.1 a12 a13 a14 (fun q hq => Nat.le_trans a11 hq) h0 hN hb hc1 hs1 hd (fun q cA H1 hK hP hD hS => ?_)
  have ec : cA = G.2.2.2.1 := by
    obtain ⟨_, _, _, _, _, e1⟩ := (a8.1.2 1 _ rfl).2
    obtain ⟨_, _, _, _, _, e2⟩ := (hK.2 2 _ rfl).2
    exact Option.some.inj (Eq.trans (Eq.symm e2) e1)
  subst ec
  obtain ⟨b1, b2, b3⟩ := k_app hn (q, .inl (G.2.2.2.1, N, .inr (.inr (.inr (.inr (fun _ => none))))))
  exact kk q _ b1 b2 b3 p e s m args below meth c H1 locs ls (X0.to hP hD hS) hc hl
theorem k_putF {C : String} {T : u_T} {N ci index j n q0 a : Nat} {ty0 : Nat → FieldType} {fs : List Value} {v : Value} (hn : L.length = n) (he : L[q0]? = some (a, .inr (ci, fs))) (hcl : vwCl[ci]? = some (C, T, N)) (hC : M.1.cls = C) (hin : ∀ w ∈ u_ws C T N, w ∈ td_all) (hty : ∀ k, k < N → parseFieldDescriptor (T k).2.2.1 = some (ty0 k)) (hnm : ∀ a, a < N → ∀ b, b < N → a ≠ b → (T a).2.1 ≠ (T b).2.1) (hj : j < N) (hr : (T j).1 = C) (hfin : (T j).2.2.2 = true) (hlink : Cond.fieldLink M.1.cls index C (T j).2.1 (T j).2.2.1 ∈ td_all) (hnr : narrow (ty0 j) v = v) (hf : fits (ty0 j) v = true) (hlen : j < fs.length) (hd : decode M.2.1 pc = .ok (.putfield index, 3))
    (kk : ∀ L1 : va_W, L1.length = n → (∀ k, k ≠ q0 → L1[k]? = L[k]?) → L1[q0]? = some (a, .inr (ci, fs.set j v)) → k_J G R M k_ini Qf (pc + 3) lv st L1 cc sl) : k_J G R M k_ini Qf pc lv (v :: .ref a :: st) L cc sl := by
  intro p e s m args below meth c H locs ls X hc hl
  have X0 := X
  obtain ⟨a1, a2, a3, a4, a5, a6, a7, a8, a9, a10, a11, a12, a13, a14⟩ := X
  refine va_putF (ref := C) a1 a2 a6 hin ty0 hty hnm a5 a8.1 a12 a13 a14 q0 he hcl j hj (a6 _ hlink) (fun _ z => by rw [hr] at z; exact z) hfin hc (hr.trans hC.symm) (hty j hj) hnr hf hlen hd (fun H1 locs1 hP hD hS => ?_)
  obtain ⟨b1, b2, b3⟩ := k_st hn he (a, .inr (ci, fs.set j v))
  exact kk _ b1 b2 b3 p e s m args below meth c H1 locs1 ls (X0.to hP hD hS) hc hl
theorem k_put {C : String} {T : u_T} {N ci index j n q0 a : Nat} {ty0 : Nat → FieldType} {fs : List Value} {v : Value} (hn : L.length = n) (he : L[q0]? = some (a, .inr (ci, fs))) (hcl : vwCl[ci]? = some (C, T, N)) (hin : ∀ w ∈ u_ws C T N, w ∈ td_all) (hty : ∀ k, k < N → parseFieldDescriptor (T k).2.2.1 = some (ty0 k)) (hnm : ∀ a, a < N → ∀ b, b < N → a ≠ b → (T a).2.1 ≠ (T b).2.1) (hj : j < N) (hr : (T j).1 = C) (hfin : (T j).2.2.2 = false) (hlink : Cond.fieldLink M.1.cls index C (T j).2.1 (T j).2.2.1 ∈ td_all) (hnr : narrow (ty0 j) v = v) (hf : fits (ty0 j) v = true) (hlen : j < fs.length) (hd : decode M.2.1 pc = .ok (.putfield index, 3))
    (kk : ∀ L1 : va_W, L1.length = n → (∀ k, k ≠ q0 → L1[k]? = L[k]?) → L1[q0]? = some (a, .inr (ci, fs.set j v)) → k_J G R M Cx Qf (pc + 3) lv st L1 cc sl) : k_J G R M Cx Qf pc lv (v :: .ref a :: st) L cc sl := by
  intro p e s m args below meth c H locs ls X hc hl
  have X0 := X
  obtain ⟨a1, a2, a3, a4, a5, a6, a7, a8, a9, a10, a11, a12, a13, a14⟩ := X
  refine va_put (ref := C) a1 a2 a6 hin ty0 hty hnm a5 a8.1 a12 a13 a14 q0 he hcl j hj (a6 _ hlink) (fun _ z => by rw [hr] at z; exact z) hfin (hty j hj) hnr hf hlen hd (fun H1 locs1 hP hD hS => ?_)
  obtain ⟨b1, b2, b3⟩ := k_st hn he (a, .inr (ci, fs.set j v))
  exact kk _ b1 b2 b3 p e s m args below meth c H1 locs1 ls (X0.to hP hD hS) hc hl
theorem k_get {C : String} {T : u_T} {N ci index j q0 a : Nat} {fs : List Value} {v : Value} (he : L[q0]? = some (a, .inr (ci, fs))) (hcl : vwCl[ci]? = some (C, T, N)) (hin : ∀ w ∈ u_ws C T N, w ∈ td_all) (hj : j < N) (hr : (T j).1 = C) (hlink : Cond.fieldLink M.1.cls index C (T j).2.1 (T j).2.2.1 ∈ td_all) (hv : fs[j]? = some v) (hd : decode M.2.1 pc = .ok (.getfield index, 3))
    (kk : k_J G R M Cx Qf (pc + 3) lv (v :: st) L cc sl) : k_J G R M Cx Qf pc lv (.ref a :: st) L cc sl := by
  intro p e s m args below meth c H locs ls X hc hl
  have kk := kk p e s m args below meth c H locs ls X hc hl
  obtain ⟨a1, a2, a3, a4, a5, a6, a7, a8, a9, a10, a11, a12, a13, a14⟩ := X
  exact va_get (ref := C) a1 a2 a6 hin a5 a8.1 a12 q0 he hcl j hj (a6 _ hlink) (fun _ z => by rw [hr] at z; exact z) hv hd kk
theorem k_iast {n q0 a N : Nat} {f : Nat → Int32} {i x : Int32} (hn : L.length = n) (he : L[q0]? = some (a, .inl (G.2.2.1, N, .inl f))) (hin : vp_in i N) (hd : decode M.2.1 pc = .ok (.iastore, 1))
    (kk : ∀ L1 : va_W, L1.length = n → (∀ k, k ≠ q0 → L1[k]? = L[k]?) → L1[q0]? = some (a, .inl (G.2.2.1, N, .inl (upd f (ix i) x))) → k_J G R M Cx Qf (pc + 1) lv st L1 cc sl) : k_J G R M Cx Qf pc lv (.int x :: .int i :: .ref a :: st) L cc sl := by
  intro p e s m args below meth c H locs ls X hc hl
  have X0 := X
  obtain ⟨a1, a2, a3, a4, a5, a6, a7, a8, a9, a10, a11, a12, a13, a14⟩ := X
  refine va_iast a1 a2 a8.1 a12 a13 a14 q0 0 he rfl hin hd (fun H1 locs1 hP hD hS => ?_)
  obtain ⟨b1, b2, b3⟩ := k_st hn he (a, .inl (G.2.2.1, N, .inl (upd f (ix i) x)))
  exact kk _ b1 b2 b3 p e s m args below meth c H1 locs1 ls (X0.to hP hD hS) hc hl
theorem k_alenq {q0 a N : Nat} {f : Nat → Option Nat} {v : Int32} (he : L[q0]? = some (a, .inl (G.2.2.2.1, N, .inr (.inr (.inr (.inr f)))))) (hv : Int32.ofNat N = v) (hd : decode M.2.1 pc = .ok (.arraylength, 1)) (kk : k_J G R M Cx Qf (pc + 1) lv (.int v :: st) L cc sl) : k_J G R M Cx Qf pc lv (.ref a :: st) L cc sl := by
  intro p e s m args below meth c H locs ls X hc hl
  have kk := kk p e s m args below meth c H locs ls X hc hl
  obtain ⟨a1, a2, a3, a4, a5, a6, a7, a8, a9, a10, a11, a12, a13, a14⟩ := X
  exact va_alen a1 a2 a8.1 a12 q0 1 he rfl hv hd kk
theorem k_astq {n q0 qk a v N : Nat} {f : Nat → Option Nat} {vs : List Value} {i : Int32} (hn : L.length = n) (he : L[q0]? = some (a, .inl (G.2.2.2.1, N, .inr (.inr (.inr (.inr f)))))) (hv : L[qk]? = some (v, .inr (6, vs))) (hin : vp_in i N) (hd : decode M.2.1 pc = .ok (.aastore, 1))
    (kk : ∀ L1 : va_W, L1.length = n → (∀ k, k ≠ q0 → L1[k]? = L[k]?) → L1[q0]? = some (a, .inl (G.2.2.2.1, N, .inr (.inr (.inr (.inr (va_up f (ix i) (some v))))))) → k_J G R M Cx Qf (pc + 1) lv st L1 cc sl) : k_J G R M Cx Qf pc lv (.ref v :: .int i :: .ref a :: st) L cc sl := by
  intro p e s m args below meth c H locs ls X hc hl
  have X0 := X
  obtain ⟨a1, a2, a3, a4, a5, a6, a7, a8, a9, a10, a11, a12, a13, a14⟩ := X
  refine va_astq (r := (RX6, TX6, 3)) a1 a2 a8.1 a12 a13 a14 q0 1 qk 6 he rfl hv rfl hin hd (fun H1 locs1 hP hD hS => ?_)
  obtain ⟨b1, b2, b3⟩ := k_st hn he (a, .inl (G.2.2.2.1, N, .inr (.inr (.inr (.inr (va_up f (ix i) (some v)))))))
  exact kk _ b1 b2 b3 p e s m args below meth c H1 locs1 ls (X0.to hP hD hS) hc hl
theorem k_getsN {i index : Nat} {host : String} (hi : i < 5) (hlink : Cond.fieldLinkNest M.1.cls index RX9 (td_sn i) "[I" host ∈ td_nest) (hd : decode M.2.1 pc = .ok (.getstatic index, 3)) (kk : k_J G R M Cx Qf (pc + 3) lv (.ref (td_ad G (1000 + i)) :: st) L cc sl) : k_J G R M Cx Qf pc lv st L cc sl := by
  intro p e s m args below meth c H locs ls X hc hl
  have kk := kk p e s m args below meth c H locs ls X hc hl
  obtain ⟨a1, a2, a3, a4, a5, a6, a7, a8, a9, a10, a11, a12, a13, a14⟩ := X
  exact va_getsN a1 a2 (a9.1 i hi).1 a14 a5 (va_Nw.use rfl (a8.2 _ hlink)) (fun _ z => z) hd kk
/-- the end of a constructor -/
theorem k_return {Post : va_W → Prop} {mc ms : Nat} (hret : M.2.2.2 = none) (hc1 : cc ≤ mc) (hs1 : sl ≤ ms) (hd : decode M.2.1 pc = .ok (.return_, 1)) (hp : Post L) : k_J G R M Cx (k_end G Post mc ms) pc lv [] L cc sl := by
  intro p e s m args below meth c H locs ls X hc hl
  obtain ⟨a1, a2, a3, a4, a5, a6, a7, a8, a9, a10, a11, a12, a13, a14⟩ := X
  refine W.widen hc1 hs1 ?_
  refine W.vret a1 a2 (a3.trans hret) (fun t ht hW => ⟨⟨rfl, L, hp, by rw [ht]; exact a12, a13, a8.moved hW, ?_, va_AO.moved hW.alike a10, by rw [ht]; exact Nat.le_trans a11 a14.1⟩, a14.F ht⟩) (fun q hq => a14.2.2 q hq) hd a7
  exact td_T.moved hW.alike (fun _ z => vk_R.warm hW z) a9 (fun a h1 h2 => by rw [ht]; exact a14.2.1 a h1 h2)
theorem k_blind (as : List Value) (L : va_W) : FrameBlind (va_Pc as (k_Wd G L)) := fun a U g mk q => by
  obtain ⟨q0, qP, qD, qK, qT, qO, qz⟩ := q
  exact ⟨q0, qP, qD, ⟨va_K.moved (u := U) (U := U.calling g mk a) (Vm.Alike.refl U.vm) qK.1, fun w hw => td_Nsame (s := U) (U := U.calling g mk a) hw rfl (qK.2 w hw)⟩, td_T.moved (s := U) (U := U.calling g mk a) (Vm.Alike.refl U.vm) (fun _ z => vk_R.same rfl z) qT (fun _ _ _ => rfl), va_AO.moved (u := U) (U := U.calling g mk a) (Vm.Alike.refl U.vm) qO, qz⟩
theorem k_pre {p : Program} {s : State} {m : MethodId} {args : Array Value} {meth : Method} {c : Code} {H : Heap} {locs : List Loc} (X : k_X G M L p s m args meth c H locs) (as : List Value) : ∀ U : State, U.heap = H → s.WarmedH U.vm → va_Pc as (k_Wd G L) as.toArray U := by
  intro U hU hW
  obtain ⟨a1, a2, a3, a4, a5, a6, a7, a8, a9, a10, a11, a12, a13, a14⟩ := X
  exact ⟨rfl, by rw [hU]; exact a12, a13, a8.moved hW, td_T.moved hW.alike (fun _ z => vk_R.warm hW z) a9 (fun a h1 h2 => by rw [hU]; exact a14.2.1 a h1 h2), va_AO.moved hW.alike a10, by rw [hU]; exact Nat.le_trans a11 a14.1⟩
theorem k_cont {p : Program} {e : Env} {s : State} {m : MethodId} {args : Array Value} {below : List Frame} {meth : Method} {c : Code} {H : Heap} {locs : List Loc} {ls : Array Slot} {P1 : va_W → Prop} {a : Array Value} {st0 : List Value} {mc ms : Nat} (X : k_X G M L p s m args meth c H locs) (hc : Cx s args meth) (hl : lv_has ls M.2.2.1 lv)
    (hr : va_Run p G.1 e R s m args below meth c H locs cc sl mc ms (F0 m pc ls st0) st (k_Q G P1 a) (td_A G)) (kk : ∀ L1, P1 L1 → k_J G R M Cx Qf (pc + 3) lv st L1 (cc + mc) (sl + ms)) :
    W p G.1 e R s m args below meth c H locs cc sl (Qf below args s) (F0 m pc ls st0) := by
  intro T hT XT
  obtain ⟨v, st₀, t, T', Lo, h0, X', hL, e1, e2, ⟨⟨hv, L1, hp, hw⟩, hz, hk⟩, stp⟩ := hr T hT XT
  obtain ⟨a1, a2, a3, a4, a5, a6, a7, a8, a9, a10, a11, a12, a13, a14⟩ := X
  have hv : v = none := by cases hv; rfl
  subst hv
  rw [h0] at hz hk
  have hS : va_S (td_A G) s.heap T'.heap (locs ++ Lo) := ⟨Nat.le_trans a14.1 (by rw [e1]; exact hz), fun q g1 g2 => by rw [e1, hk q (Nat.lt_of_lt_of_le g1 a14.1) g2]; exact a14.2.1 q g1 g2, fun q hq => by
      rcases List.mem_append.mp hq with z | z
      · exact a14.2.2 q z
      · exact hL q z⟩
  obtain ⟨t2, b1, b2⟩ := kk L1 hp p e s m args below meth c T'.heap (locs ++ Lo) ls ⟨a1, a2, a3, a4, a5, a6, a7, a8, a9, a10, a11, by rw [e1]; exact hw.1, hw.2.1, hS⟩ hc hl T' rfl X'
  exact ⟨t2, stp t2 b1, b2⟩
/-- a constructor of a nest mate is called -/
theorem k_iniN {Mc : td_M} {host : String} {index d mc ms a : Nat} {P1 : va_W → Prop} (w1 : Cond.methodLinkNest M.1.cls index Mc.1 host ∈ td_nest) (w2 : Cond.instanceMethod Mc.1 ∈ td_all) (w4 : Cond.initialized Mc.1.cls ∈ td_all) (w5 : Cond.code Mc.1 Mc.2.1 Mc.2.2.1 Mc.2.2.2 ∈ td_all) (hret : Mc.2.2.2 = none) (hnm : Mc.1.name = "<init>") (hno : td_no Mc.1 0) (hR : d + 1 ≤ R.frames ∧ 8 + (Mc.2.2.1 + 11) + 40 * d ≤ R.locals) (hcs : cc + mc ≤ R.cells ∧ sl + ms ≤ R.slots) (hd : decode M.2.1 pc = .ok (.invokespecial index, 3)) (hst : (st.map fun v => v.category).sum ≤ 8)
    (ct : k_C G d mc ms Mc a L P1) (kk : ∀ L1, P1 L1 → k_J G R M Cx Qf (pc + 3) lv st L1 (cc + mc) (sl + ms)) : k_J G R M Cx Qf pc lv (.ref a :: st) L cc sl := by
  intro p e s m args below meth c H locs ls X hc hl
  have hts := X.2.2.2.2.2.1
  have z := va_cnB (R := R) (rm := k_rm d mc ms) 0 hts (td_GI (td_wlin w5)) rfl rfl rfl (X.2.2.2.2.2.2.2.1.2 _ w1) (hts _ w4) hno hR
  rw [hret] at z
  exact k_cont X hc hl (va_runIN (As := []) (b := a) (rest := st) ⟨X.1, X.2.1, X.2.2.2.1, X.2.2.2.2.1, hts⟩ ct ⟨z, hnm, hts _ w2⟩ ⟨k_blind _ _, k_pre X [.ref a]⟩ rfl rfl hl.1 rfl (lv_room hst) hd hcs) kk
/-- a public constructor is called -/
theorem k_iniP {Mc : td_M} {index d mc ms a : Nat} {P1 : va_W → Prop} (w1 : Cond.methodLink M.1.cls index Mc.1 ∈ td_all) (w2 : Cond.instanceMethod Mc.1 ∈ td_all) (w4 : Cond.initialized Mc.1.cls ∈ td_all) (w5 : Cond.code Mc.1 Mc.2.1 Mc.2.2.1 Mc.2.2.2 ∈ td_all) (hret : Mc.2.2.2 = none) (hnm : Mc.1.name = "<init>") (hno : td_no Mc.1 0) (hR : d + 1 ≤ R.frames ∧ 8 + (Mc.2.2.1 + 11) + 40 * d ≤ R.locals) (hcs : cc + mc ≤ R.cells ∧ sl + ms ≤ R.slots) (hd : decode M.2.1 pc = .ok (.invokespecial index, 3)) (hst : (st.map fun v => v.category).sum ≤ 8)
    (ct : k_C G d mc ms Mc a L P1) (kk : ∀ L1, P1 L1 → k_J G R M Cx Qf (pc + 3) lv st L1 (cc + mc) (sl + ms)) : k_J G R M Cx Qf pc lv (.ref a :: st) L cc sl := by
  intro p e s m args below meth c H locs ls X hc hl
  have hts := X.2.2.2.2.2.1
  have z := cwI (R := R) (rm := k_rm d mc ms) (bytes := Mc.2.1) (maxL := Mc.2.2.1) (ws' := td_all) 0 hts (td_GI (td_wlin w5)) (by unfold td_wl; rw [hret]) rfl rfl (hts _ w4) (hts _ w1) (hts _ w2) hnm hno hR
  exact k_cont X hc hl (va_runI (As := []) (b := a) (rest := st) ⟨X.1, X.2.1, X.2.2.2.1, X.2.2.2.2.1, hts⟩ ct z ⟨k_blind _ _, k_pre X [.ref a]⟩ rfl rfl hl.1 rfl (lv_room hst) hd hcs) kk
end KJ
