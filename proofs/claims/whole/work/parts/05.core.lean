/-! ===== THE PICTURE OF THE HEAP: 107 places, of fixed kinds; what they hold is a function of place and slot. Abstract references are places; 'ad' says where a place lies. ===== -/
abbrev td_H : Type := Nat → Nat → Int32
abbrev ix (i : Int32) : Nat := i.toNatClampNeg
/-- kinds of places: below 20 an object of that class of vwCl, 20 the row of sheets, 100 + n a row of n ints -/
def td_KD : List Nat := [9, 5,109,112,112,112, 5,109,112,112,112, 7,180,108,108,108, 20,
  0, 1,196,124,104,104,112, 2,112,112,112,112, 112,220,102, 5,109,112,112,112,
  3,220,220,220,220,580, 8, 5,109,112,112,112,
  0, 1,196,124,104,104,112, 2,112,112,112,112, 112,220,102, 5,109,112,112,112,
  4,106,106,106, 121,118,118,2368, 6,116, 6,116, 6,116, 6,116,
  10, 146,109,112,180,124, 112,112,112,112,112,112,112,112, 106,106,106,106, 146,104,104,164]
def td_kd (k : Nat) : Nat := td_KD.getD k 999
theorem td_kd_lt {k n : Nat} (h : td_kd k = n) (hn : n ≠ 999) : k < 107 := by
  rcases Nat.lt_or_ge k 107 with q | q
  · exact q
  · exact absurd (h.symm.trans (by unfold td_kd; rw [List.getD_eq_getElem?_getD, List.getElem?_eq_none (by exact q)]; rfl)) hn
/-- what a field is: 0 int, 1 boolean, 2 a reference that changes (its place is held as a number), 10 + d the place d behind the object's own -/
def td_sl (ci j : Nat) : Nat := (([[11,17,22,23,24,2], [11,12,13,14,15], [11,12,13,14], [11,12,13,14,15], [11,12,13], [11,12,13,14], [11], [11,12,13,14], [11,16,36,40,41,42,43,0,1,1,0], [11,16,21,26,27,47,53,1,1],
  [11,12,0,13,14,0,0,0,15,16,17,18,19,20,21,22,23,0,0,0,0,0,0,24,25,26,27,1,28,29,30,31]] : List (List Nat)).getD ci []).getD j 0
def td_nf (ci : Nat) : Nat := ([15,12,6,5,7,5,3,7,11,9,32] : List Nat).getD ci 0
/-- launch; classes and slots; the class of int rows, of the row of sheets; where places lie; from where on cells are ours -/
abbrev td_G : Type := Launch × va_G × ClassId × ClassId × (Nat → Nat) × Nat
abbrev td_ad (G : td_G) : Nat → Nat := G.2.2.2.2.1
def td_A (G : td_G) : Nat → Prop := fun q => G.2.2.2.2.2 ≤ q
def td_cv (G : td_G) : Value → Value
  | .ref k => .ref (td_ad G k)
  | v => v
def td_cq (G : td_G) (q : Nat × Value) : Nat × Value := (q.1, td_cv G q.2)
def td_av (k c : Nat) (x : Int32) : Value := if c < 2 then .int x else if c = 2 then .ref (ix x) else .ref (k + (c - 10))
def td_fs (G : td_G) (h : td_H) (k : Nat) : List Value := (List.range (td_nf (td_kd k))).map (fun j => td_cv G (td_av k (td_sl (td_kd k) j) (h k j)))
def td_E (G : td_G) (h : td_H) (k : Nat) : va_E := if td_kd k < 20 then .inr (td_kd k, td_fs G h k) else if td_kd k = 20 then .inl (G.2.2.2.1, 4, .inr (.inr (.inr (.inr (fun i => some (td_ad G (77 + 2 * i))))))) else .inl (G.2.2.1, td_kd k - 100, .inl (h k))
def td_ws (G : td_G) (h : td_H) : va_W := (List.range 107).map (fun k => (td_ad G k, td_E G h k))
def hu (h : td_H) (k j : Nat) (v : Int32) : td_H := va_up h k (upd (h k) j v)
theorem hu_s (h : td_H) (k j : Nat) (v : Int32) : hu h k j v k = upd (h k) j v := if_pos rfl
theorem hu_n (h : td_H) {k a : Nat} (j : Nat) (v : Int32) (n : a ≠ k) : hu h k j v a = h a := if_neg n
theorem td_ws_get (G : td_G) (h : td_H) {k : Nat} (hk : k < 107) : (td_ws G h)[k]? = some (td_ad G k, td_E G h k) := by
  unfold td_ws
  rw [List.getElem?_map, List.getElem?_range hk]
  rfl
theorem td_ws_set (G : td_G) (h : td_H) {k : Nat} (f : Nat → Int32) (_hk : k < 107) : (td_ws G h).set k (td_ad G k, td_E G (va_up h k f) k) = td_ws G (va_up h k f) := by
  apply List.ext_getElem?
  intro i
  rw [List.getElem?_set]
  unfold td_ws
  rw [List.length_map, List.length_range, List.getElem?_map, List.getElem?_map]
  rcases Nat.lt_or_ge i 107 with q | q
  · rw [List.getElem?_range q]
    by_cases e : k = i
    · subst e
      rw [if_pos rfl, if_pos q]
      rfl
    · rw [if_neg e]
      have e2 : va_up h k f i = h i := if_neg (fun z => e z.symm)
      show some (td_ad G i, td_E G h i) = some (td_ad G i, td_E G (va_up h k f) i)
      unfold td_E td_fs
      rw [e2]
  · rw [List.getElem?_eq_none (by simpa using q)]
    by_cases e : k = i
    · subst e
      rw [if_pos rfl, if_neg (by omega)]
      rfl
    · rw [if_neg e]
      rfl
/-! ===== WORDS ===== -/
def td_isN : Cond → Bool
  | .fieldLinkNest .. => true
  | .methodLinkNest .. => true
  | _ => false
def td_nest : List Cond := tables_1.filter td_isN
def td_all : List Cond := lw_tbl.filter goodWord
theorem td_in {w : Cond} (i : Nat) (h : lw_tbl[i]? = some w) (g : goodWord w = true) : w ∈ td_all := List.mem_filter.mpr ⟨List.mem_of_getElem? h, g⟩
theorem td_inN {w : Cond} (i : Nat) (h : tables_1[i]? = some w) (g : td_isN w = true) : w ∈ td_nest := List.mem_filter.mpr ⟨List.mem_of_getElem? h, g⟩
theorem td_good {w : Cond} (h : w ∈ td_all) : (w.onTables && w.keeps) = true ∨ ∃ ty, w = .arrayClass ty := good_of_word (List.mem_filter.mp h).2
theorem td_Nmoved {w : Cond} (hw : w ∈ td_nest) {s U : State} (hW : s.WarmedH U.vm) (h : va_Nw w s) : va_Nw w U := by
  have h2 := (List.mem_filter.mp hw).2
  cases w <;> first | exact va_Nw.warmF hW h | exact va_Nw.warmM hW h | cases h2
theorem td_Nsame {w : Cond} (hw : w ∈ td_nest) {s U : State} (hv : s.vm = U.vm) (h : va_Nw w s) : va_Nw w U := by
  have h2 := (List.mem_filter.mp hw).2
  cases w <;> first | exact va_Nw.same rfl hv h | cases h2
/-! ===== THE WORLD AT A STATE ===== -/
def td_sn (i : Nat) : String := (["LEAST", "MOST", "FIRST", "SIZES", "PUSHES"] : List String).getD i ""
def td_st (i : Nat) : List Int32 := ([[3,1,1,0,1,1,0,1,0], [4,3,6,20,9,3,9,9,120], [4,2,2,2,2,2,1,3,120], [1,2,3,1,1,1], [2,1,1,0,4,2]] : List (List Int32)).getD i []
def td_K (G : td_G) (U : State) : Prop := va_K G.2.1 vwCl [(G.2.2.1, .int), (G.2.2.2.1, .object RX6)] U ∧ ∀ w ∈ td_nest, va_Nw w U
def td_T (G : td_G) (U : State) (H : Heap) : Prop := (∀ i, i < 5 → va_Z RX9 (td_sn i) "[I" (.ref (td_ad G (1000 + i))) (td_A G) U H ∧ va_T .int (td_ad G (1000 + i)) (td_st i).length (fun j => .int ((td_st i).getD j 0)) (td_A G) U H) ∧ va_Z RJ0 "COMPACT_STRINGS" "Z" (.int 1) (td_A G) U H ∧ vk_S 1 [6] [[119, 98, 116, 99, 104, 100]] (fun _ => td_ad G 2000) (fun _ => td_ad G 2001) (td_A G) U H ∧ vk_R RX7 64 "wbtchd" (td_ad G 2000) U
def td_W (G : td_G) (h : td_H) (U : State) : Prop := va_P G.2.1 vwCl (td_ws G h) U.heap ∧ va_D (td_A G) (td_ws G h) ∧ td_K G U ∧ td_T G U U.heap
theorem td_K.moved {G : td_G} {s U : State} (hW : s.WarmedH U.vm) (h : td_K G s) : td_K G U := ⟨va_K.moved hW.alike h.1, fun w hw => td_Nmoved hw hW (h.2 w hw)⟩
theorem td_T.moved {G : td_G} {s U : State} {H H1 : Heap} (hv : s.vm.Alike U.vm) (hR : ∀ a, vk_R RX7 64 "wbtchd" a s → vk_R RX7 64 "wbtchd" a U) (h : td_T G s H) (hq : ∀ a : Nat, a < H.size → ¬ td_A G a → H1[a]? = H[a]?) : td_T G U H1 := ⟨fun i hi => ⟨((h.1 i hi).1.moved hv).kept hq, ((h.1 i hi).2.moved hv).kept hq⟩, (h.2.1.moved hv).kept hq, (h.2.2.1.moved hv).kept hq, hR _ h.2.2.2⟩
/-! ===== CONTRACTS ===== -/
abbrev td_M : Type := MethodName × ByteArray × Nat × Option FieldType
def td_wl (M : td_M) : List Cond := Cond.code M.1 M.2.1 M.2.2.1 M.2.2.2 :: td_all
def td_rm (d : Nat) : Room := { frames := d, cells := 0, slots := 0, locals := 40 * d }
abbrev td_P : Type := Option Value → td_H → Prop
def td_Q (G : td_G) (Post : td_P) : Array Value → State → Outcome → State → Prop := fun _ st oc t => (∃ (r : Option Value) (h' : td_H), oc = .returned (r.map (td_cv G)) ∧ Post r h' ∧ td_W G h' t) ∧ va_F (td_A G) st t
/-- the method M, called with these at the picture h, returns, and what it answers and leaves is Post -/
def td_C (G : td_G) (d : Nat) (M : td_M) (as : List Value) (h : td_H) (Post : td_P) : Prop := Met G.1 M.1 (td_wl M) (td_rm d) (va_Pc (as.map (td_cv G)) (td_W G h)) (td_Q G Post) 0 0 (td_A G)
def td_X (G : td_G) (M : td_M) (h : td_H) (lv : List (Nat × Value)) (p : Program) (s : State) (m : MethodId) (args : Array Value) (meth : Method) (c : Code) (H : Heap) (locs : List Loc) (ls : Array Slot) : Prop :=
  p.tables.exec = Jvm.exec ∧ c.code = M.2.1 ∧ meth.sig.returnType = M.2.2.2 ∧ c.maxLocals = M.2.2.1 ∧ s.vm.findClass M.1.cls = some m.cls ∧ (∀ w ∈ td_all, w.before args s = true) ∧ meth.locks = false ∧ td_K G s ∧ td_T G s s.heap ∧
  va_P G.2.1 vwCl (td_ws G h) H ∧ va_D (td_A G) (td_ws G h) ∧ va_S (td_A G) s.heap H locs ∧ lv_has ls M.2.2.1 (lv.map (td_cq G))
/-- within M at pc, with these locals and this stack at the picture h: it comes to M's end, with Post -/
def td_J (G : td_G) (d : Nat) (M : td_M) (Post : td_P) (pc : Nat) (lv : List (Nat × Value)) (st : List Value) (h : td_H) : Prop :=
  ∀ (p : Program) (e : Env) (s : State) (m : MethodId) (args : Array Value) (below : List Frame) (meth : Method) (c : Code) (H : Heap) (locs : List Loc) (ls : Array Slot), td_X G M h lv p s m args meth c H locs ls →
    W p G.1 e (td_rm d) s m args below meth c H locs 0 0 (MQ below (td_Q G Post) args s 0 0 (td_A G)) (F0 m pc ls (st.map (td_cv G)))
theorem td_lva (G : td_G) (as : List Value) : ∀ i, lv_args i (as.map (td_cv G)) = (lv_args i as).map (td_cq G) := by
  induction as with
  | nil => intro i; rfl
  | cons v vs ih =>
    intro i
    have e : (td_cv G v).category = v.category := by cases v <;> rfl
    show (i, td_cv G v) :: lv_args (if (td_cv G v).category = 2 then i + 2 else i + 1) (vs.map (td_cv G)) = (i, td_cv G v) :: (lv_args (if v.category = 2 then i + 2 else i + 1) vs).map (td_cq G)
    rw [e, ih]
theorem td_lgl (G : td_G) (as : List Value) : (lg_sl (as.map (td_cv G))).length = (lg_sl as).length := by
  induction as with
  | nil => rfl
  | cons v vs ih =>
    have e : (td_cv G v).category = v.category := by cases v <;> rfl
    unfold lg_sl at ih ⊢
    rw [List.map_cons, List.flatMap_cons, List.flatMap_cons, List.length_append, List.length_append, ih, e]
    by_cases z : v.category = 2 <;> simp [z]
theorem td_entry {G : td_G} {d : Nat} {M : td_M} {as : List Value} {h : td_H} {Post : td_P} {lv : List (Nat × Value)} (hy : plainName M.1.cls = true) (hn : (lg_sl as).length ≤ M.2.2.1) (hl : lv_args 0 as = lv) (k : td_J G d M Post 0 lv [] h) : td_C G d M as h Post := by
  refine Met.ofW (cc := M.2.1) (maxL := M.2.2.1) (ret := M.2.2.2) hy rfl ?_
  intro p e s m args below meth c s₁ B hml hv
  obtain ⟨rfl, hP, hD, hK, hT⟩ := hv
  have hts := atoms_spec (ws := td_wl M) B.pre
  have hl2 := lv_entry (as.map (td_cv G)) (n := M.2.2.1) (by rw [td_lgl]; exact hn)
  rw [lg_entry_eq]
  rw [td_lva, hl] at hl2
  exact k p e s m _ below meth c s.heap [] _ ⟨B.exec, B.bytes, B.returns, hml, findClass_of_methodNamed B.named, fun w hw => hts w (List.mem_cons_of_mem _ hw), B.notSynchronized, hK, hT, hP, hD, va_S.rf, hl2⟩
/-! ===== INSTRUCTIONS ===== -/
section TDI
variable {G : td_G} {d : Nat} {M : td_M} {Post : td_P} {pc : Nat} {lv lv2 : List (Nat × Value)} {st : List Value} {h : td_H}
theorem td_at {ls : Array Slot} {n pos i : Nat} {v : Value} (hl : lv_has ls n (lv.map (td_cq G))) (hk : lv[pos]? = some (i, v)) : ls[i]? = some (.val (td_cv G v)) := lv_at hl pos (by rw [List.getElem?_map, hk]; rfl)
def td_ins (a : Nat × Value) : List (Nat × Value) → List (Nat × Value)
  | [] => [a]
  | q :: l => if a.1 < q.1 then a :: q :: l else q :: td_ins a l
theorem td_ins_mem {a q : Nat × Value} : ∀ {l : List (Nat × Value)}, q ∈ td_ins a l → q = a ∨ q ∈ l
  | [], hq => Or.inl (List.mem_singleton.mp hq)
  | b :: l, hq => by
    unfold td_ins at hq
    split at hq
    · rcases List.mem_cons.mp hq with e | e
      · exact Or.inl e
      · exact Or.inr e
    · rcases List.mem_cons.mp hq with e | e
      · exact Or.inr (by rw [e]; exact List.mem_cons_self)
      · rcases td_ins_mem e with z | z
        · exact Or.inl z
        · exact Or.inr (List.mem_cons_of_mem _ z)
def td_ls (lv : List (Nat × Value)) (i : Nat) (v : Value) : List (Nat × Value) := td_ins (i, v) (lv.filter (fun q => !(q.1 == i) && !(q.1 + 1 == i && q.2.category == 2)))
theorem td_lset {ls : Array Slot} {n i : Nat} {v : Value} (h : lv_has ls n ((i, td_cv G v) :: (lv.map (td_cq G)).filter (fun q => !(q.1 == i) && !(q.1 + 1 == i && q.2.category == 2)))) (e : td_ls lv i v = lv2) : lv_has ls n (lv2.map (td_cq G)) := by
  refine ⟨h.1, h.2.1, fun q hq => h.2.2 q ?_⟩
  subst e
  obtain ⟨q', h1, rfl⟩ := List.mem_map.mp hq
  rcases td_ins_mem h1 with e | e
  · subst e
    exact List.mem_cons_self
  · obtain ⟨e1, e2⟩ := List.mem_filter.mp e
    refine List.mem_cons_of_mem _ (List.mem_filter.mpr ⟨List.mem_map.mpr ⟨q', e1, rfl⟩, ?_⟩)
    have ec : (td_cv G q'.2).category = q'.2.category := by cases q'.2 <;> rfl
    show (!(q'.1 == i) && !(q'.1 + 1 == i && (td_cv G q'.2).category == 2)) = true
    rw [ec]
    exact e2
theorem td_iconst {n : Int} {v : Int32} (hd : decode M.2.1 pc = .ok (.iconst n, 1)) (hv : Int32.ofInt n = v) (k : td_J G d M Post (pc + 1) lv (.int v :: st) h) : td_J G d M Post pc lv st h := fun p e s m args below meth c H locs ls X => lv_iconst X.1 X.2.1 hd hv (k p e s m args below meth c H locs ls X)
theorem td_bipush {n : Int} {v : Int32} (hd : decode M.2.1 pc = .ok (.bipush n, 2)) (hv : (Int8.ofInt n).toInt32 = v) (k : td_J G d M Post (pc + 2) lv (.int v :: st) h) : td_J G d M Post pc lv st h := fun p e s m args below meth c H locs ls X => lv_bipush X.1 X.2.1 hd hv (k p e s m args below meth c H locs ls X)
theorem td_sipush {n : Int} {v : Int32} (hd : decode M.2.1 pc = .ok (.sipush n, 3)) (hv : (Int16.ofInt n).toInt32 = v) (k : td_J G d M Post (pc + 3) lv (.int v :: st) h) : td_J G d M Post pc lv st h := fun p e s m args below meth c H locs ls X => lv_sipush X.1 X.2.1 hd hv (k p e s m args below meth c H locs ls X)
theorem td_lconst {n : Fin 2} {v : Int64} (hd : decode M.2.1 pc = .ok (.lconst n, 1)) (hv : Int64.ofNat (n : Nat) = v) (k : td_J G d M Post (pc + 1) lv (.long v :: st) h) : td_J G d M Post pc lv st h := fun p e s m args below meth c H locs ls X => lv_lconst X.1 X.2.1 hd hv (k p e s m args below meth c H locs ls X)
theorem td_iload_n {i : Fin 4} {x : Int32} (pos : Nat) (hd : decode M.2.1 pc = .ok (.iload_n i, 1)) (hk : lv[pos]? = some (i.val, .int x)) (k : td_J G d M Post (pc + 1) lv (.int x :: st) h) : td_J G d M Post pc lv st h := fun p e s m args below meth c H locs ls X => lv_iload_n X.1 X.2.1 hd rfl (td_at X.2.2.2.2.2.2.2.2.2.2.2.2 hk) (k p e s m args below meth c H locs ls X)
theorem td_iload {i : Nat} {x : Int32} (pos : Nat) (hd : decode M.2.1 pc = .ok (.iload i, 2)) (hk : lv[pos]? = some (i, .int x)) (k : td_J G d M Post (pc + 2) lv (.int x :: st) h) : td_J G d M Post pc lv st h := fun p e s m args below meth c H locs ls X => lv_iload X.1 X.2.1 hd (td_at X.2.2.2.2.2.2.2.2.2.2.2.2 hk) (k p e s m args below meth c H locs ls X)
theorem td_lload_n {i : Fin 4} {x : Int64} (pos : Nat) (hd : decode M.2.1 pc = .ok (.lload_n i, 1)) (hk : lv[pos]? = some (i.val, .long x)) (k : td_J G d M Post (pc + 1) lv (.long x :: st) h) : td_J G d M Post pc lv st h := fun p e s m args below meth c H locs ls X => lv_lload_n X.1 X.2.1 hd rfl (td_at X.2.2.2.2.2.2.2.2.2.2.2.2 hk) (k p e s m args below meth c H locs ls X)
theorem td_lload {i : Nat} {x : Int64} (pos : Nat) (hd : decode M.2.1 pc = .ok (.lload i, 2)) (hk : lv[pos]? = some (i, .long x)) (k : td_J G d M Post (pc + 2) lv (.long x :: st) h) : td_J G d M Post pc lv st h := fun p e s m args below meth c H locs ls X => lv_lload X.1 X.2.1 hd (td_at X.2.2.2.2.2.2.2.2.2.2.2.2 hk) (k p e s m args below meth c H locs ls X)
theorem td_aload_n {i : Fin 4} {x : Nat} (pos : Nat) (hd : decode M.2.1 pc = .ok (.aload_n i, 1)) (hk : lv[pos]? = some (i.val, .ref x)) (k : td_J G d M Post (pc + 1) lv (.ref x :: st) h) : td_J G d M Post pc lv st h := fun p e s m args below meth c H locs ls X => lv_aload_n X.1 X.2.1 hd rfl (td_at X.2.2.2.2.2.2.2.2.2.2.2.2 hk) (k p e s m args below meth c H locs ls X)
theorem td_aload {i : Nat} {x : Nat} (pos : Nat) (hd : decode M.2.1 pc = .ok (.aload i, 2)) (hk : lv[pos]? = some (i, .ref x)) (k : td_J G d M Post (pc + 2) lv (.ref x :: st) h) : td_J G d M Post pc lv st h := fun p e s m args below meth c H locs ls X => lv_aload X.1 X.2.1 hd (td_at X.2.2.2.2.2.2.2.2.2.2.2.2 hk) (k p e s m args below meth c H locs ls X)
/-- the same standing, with other locals -/
theorem td_X.ls {p : Program} {s : State} {m : MethodId} {args : Array Value} {meth : Method} {c : Code} {H : Heap} {locs : List Loc} {ls ls2 : Array Slot} (X : td_X G M h lv p s m args meth c H locs ls) (hl : lv_has ls2 M.2.2.1 (lv2.map (td_cq G))) : td_X G M h lv2 p s m args meth c H locs ls2 := by
  obtain ⟨a1, a2, a3, a4, a5, a6, a7, a8, a9, a10, a11, a12, a13⟩ := X
  exact ⟨a1, a2, a3, a4, a5, a6, a7, a8, a9, a10, a11, a12, hl⟩
theorem td_X.lh {p : Program} {s : State} {m : MethodId} {args : Array Value} {meth : Method} {c : Code} {H : Heap} {locs : List Loc} {ls : Array Slot} (X : td_X G M h lv p s m args meth c H locs ls) : lv_has ls M.2.2.1 (lv.map (td_cq G)) := X.2.2.2.2.2.2.2.2.2.2.2.2
theorem td_istore_n {i : Fin 4} {x : Int32} (hd : decode M.2.1 pc = .ok (.istore_n i, 1)) (hn : i.val < M.2.2.1) (hl : td_ls lv i.val (.int x) = lv2) (k : td_J G d M Post (pc + 1) lv2 st h) : td_J G d M Post pc lv (.int x :: st) h := fun p e s m args below meth c H locs ls X => lv_istore_n X.1 X.2.1 hd rfl X.lh hn rfl (fun ls2 h2 => k p e s m args below meth c H locs ls2 (X.ls (td_lset (v := .int x) h2 hl)))
theorem td_istore {i : Nat} {x : Int32} (hd : decode M.2.1 pc = .ok (.istore i, 2)) (hn : i < M.2.2.1) (hl : td_ls lv i (.int x) = lv2) (k : td_J G d M Post (pc + 2) lv2 st h) : td_J G d M Post pc lv (.int x :: st) h := fun p e s m args below meth c H locs ls X => lv_istore X.1 X.2.1 hd X.lh hn rfl (fun ls2 h2 => k p e s m args below meth c H locs ls2 (X.ls (td_lset (v := .int x) h2 hl)))
theorem td_astore_n {i : Fin 4} {x : Nat} (hd : decode M.2.1 pc = .ok (.astore_n i, 1)) (hn : i.val < M.2.2.1) (hl : td_ls lv i.val (.ref x) = lv2) (k : td_J G d M Post (pc + 1) lv2 st h) : td_J G d M Post pc lv (.ref x :: st) h := fun p e s m args below meth c H locs ls X => lv_astore_n X.1 X.2.1 hd rfl X.lh hn rfl (fun ls2 h2 => k p e s m args below meth c H locs ls2 (X.ls (td_lset (v := .ref x) h2 hl)))
theorem td_astore {i : Nat} {x : Nat} (hd : decode M.2.1 pc = .ok (.astore i, 2)) (hn : i < M.2.2.1) (hl : td_ls lv i (.ref x) = lv2) (k : td_J G d M Post (pc + 2) lv2 st h) : td_J G d M Post pc lv (.ref x :: st) h := fun p e s m args below meth c H locs ls X => lv_astore X.1 X.2.1 hd X.lh hn rfl (fun ls2 h2 => k p e s m args below meth c H locs ls2 (X.ls (td_lset (v := .ref x) h2 hl)))
theorem td_iinc {i : Nat} {n : Int} {x v : Int32} (pos : Nat) (hd : decode M.2.1 pc = .ok (.iinc i n, 3)) (hk : lv[pos]? = some (i, .int x)) (hv : x + Int32.ofInt n = v) (hn : i < M.2.2.1) (hl : td_ls lv i (.int v) = lv2) (k : td_J G d M Post (pc + 3) lv2 st h) : td_J G d M Post pc lv st h := fun p e s m args below meth c H locs ls X => lv_iinc X.1 X.2.1 hd X.lh (k := pos) (by rw [List.getElem?_map, hk]; rfl) hv hn rfl (fun ls2 h2 => k p e s m args below meth c H locs ls2 (X.ls (td_lset (v := .int v) h2 hl)))
/-- fewer locals -/
theorem td_drop (ks : List Nat) (hl : lv_pick lv ks = lv2) (k : td_J G d M Post pc lv2 st h) : td_J G d M Post pc lv st h := fun p e s m args below meth c H locs ls X => k p e s m args below meth c H locs ls (X.ls (by
  have e : lv_pick (lv.map (td_cq G)) ks = lv2.map (td_cq G) := by
    subst hl
    unfold lv_pick
    rw [List.map_filterMap]
    congr 1
    funext a
    rw [List.getElem?_map]
  exact lv_sub X.lh ks e))
theorem td_iadd {x y : Int32} (hd : decode M.2.1 pc = .ok (.iadd, 1)) (k : td_J G d M Post (pc + 1) lv (.int (x + y) :: st) h) : td_J G d M Post pc lv (.int y :: .int x :: st) h := fun p e s m args below meth c H locs ls X => lv_iadd X.1 X.2.1 hd (k p e s m args below meth c H locs ls X)
theorem td_isub {x y : Int32} (hd : decode M.2.1 pc = .ok (.isub, 1)) (k : td_J G d M Post (pc + 1) lv (.int (x - y) :: st) h) : td_J G d M Post pc lv (.int y :: .int x :: st) h := fun p e s m args below meth c H locs ls X => lv_isub X.1 X.2.1 hd (k p e s m args below meth c H locs ls X)
theorem td_imul {x y : Int32} (hd : decode M.2.1 pc = .ok (.imul, 1)) (k : td_J G d M Post (pc + 1) lv (.int (x * y) :: st) h) : td_J G d M Post pc lv (.int y :: .int x :: st) h := fun p e s m args below meth c H locs ls X => lv_imul X.1 X.2.1 hd (k p e s m args below meth c H locs ls X)
theorem td_iand {x y : Int32} (hd : decode M.2.1 pc = .ok (.iand, 1)) (k : td_J G d M Post (pc + 1) lv (.int (x &&& y) :: st) h) : td_J G d M Post pc lv (.int y :: .int x :: st) h := fun p e s m args below meth c H locs ls X => lv_iand X.1 X.2.1 hd (k p e s m args below meth c H locs ls X)
theorem td_ior {x y : Int32} (hd : decode M.2.1 pc = .ok (.ior, 1)) (k : td_J G d M Post (pc + 1) lv (.int (x ||| y) :: st) h) : td_J G d M Post pc lv (.int y :: .int x :: st) h := fun p e s m args below meth c H locs ls X => lv_ior X.1 X.2.1 hd (k p e s m args below meth c H locs ls X)
theorem td_ixor {x y : Int32} (hd : decode M.2.1 pc = .ok (.ixor, 1)) (k : td_J G d M Post (pc + 1) lv (.int (x ^^^ y) :: st) h) : td_J G d M Post pc lv (.int y :: .int x :: st) h := fun p e s m args below meth c H locs ls X => lv_ixor X.1 X.2.1 hd (k p e s m args below meth c H locs ls X)
theorem td_idiv {x y : Int32} (hd : decode M.2.1 pc = .ok (.idiv, 1)) (hne : ¬ y = 0) (k : td_J G d M Post (pc + 1) lv (.int (x / y) :: st) h) : td_J G d M Post pc lv (.int y :: .int x :: st) h := fun p e s m args below meth c H locs ls X => lv_idiv X.1 X.2.1 hd hne (k p e s m args below meth c H locs ls X)
def jrem (x y : Int32) : Int32 := x - x / y * y
theorem td_irem {x y : Int32} (hd : decode M.2.1 pc = .ok (.irem, 1)) (hne : ¬ y = 0) (k : td_J G d M Post (pc + 1) lv (.int (jrem x y) :: st) h) : td_J G d M Post pc lv (.int y :: .int x :: st) h := fun p e s m args below meth c H locs ls X => lv_irem X.1 X.2.1 hd hne (k p e s m args below meth c H locs ls X)
def jshl (x y : Int32) : Int32 := x <<< (y &&& 31)
def jshr (x y : Int32) : Int32 := x >>> (y &&& 31)
def jushr (x y : Int32) : Int32 := (x.toUInt32 >>> (y.toUInt32 &&& Int32.toUInt32 31)).toInt32
def jlshr (x : Int64) (y : Int32) : Int64 := x >>> (y.toInt64 &&& 63)
theorem td_ishl {x y : Int32} (hd : decode M.2.1 pc = .ok (.ishl, 1)) (k : td_J G d M Post (pc + 1) lv (.int (jshl x y) :: st) h) : td_J G d M Post pc lv (.int y :: .int x :: st) h := fun p e s m args below meth c H locs ls X => lv_ishl X.1 X.2.1 hd (k p e s m args below meth c H locs ls X)
theorem td_ishr {x y : Int32} (hd : decode M.2.1 pc = .ok (.ishr, 1)) (k : td_J G d M Post (pc + 1) lv (.int (jshr x y) :: st) h) : td_J G d M Post pc lv (.int y :: .int x :: st) h := fun p e s m args below meth c H locs ls X => lv_ishr X.1 X.2.1 hd (k p e s m args below meth c H locs ls X)
theorem td_iushr {x y : Int32} (hd : decode M.2.1 pc = .ok (.iushr, 1)) (k : td_J G d M Post (pc + 1) lv (.int (jushr x y) :: st) h) : td_J G d M Post pc lv (.int y :: .int x :: st) h := fun p e s m args below meth c H locs ls X => lv_iushr X.1 X.2.1 hd rfl (k p e s m args below meth c H locs ls X)
theorem td_lshr {x : Int64} {y : Int32} (hd : decode M.2.1 pc = .ok (.lshr, 1)) (k : td_J G d M Post (pc + 1) lv (.long (jlshr x y) :: st) h) : td_J G d M Post pc lv (.int y :: .long x :: st) h := fun p e s m args below meth c H locs ls X => lv_lshr X.1 X.2.1 hd rfl (k p e s m args below meth c H locs ls X)
theorem td_land {x y : Int64} (hd : decode M.2.1 pc = .ok (.land, 1)) (k : td_J G d M Post (pc + 1) lv (.long (x &&& y) :: st) h) : td_J G d M Post pc lv (.long y :: .long x :: st) h := fun p e s m args below meth c H locs ls X => lv_land X.1 X.2.1 hd (k p e s m args below meth c H locs ls X)
theorem td_i2l {x : Int32} (hd : decode M.2.1 pc = .ok (.i2l, 1)) (k : td_J G d M Post (pc + 1) lv (.long x.toInt64 :: st) h) : td_J G d M Post pc lv (.int x :: st) h := fun p e s m args below meth c H locs ls X => lv_i2l X.1 X.2.1 hd rfl (k p e s m args below meth c H locs ls X)
theorem td_l2i {x : Int64} (hd : decode M.2.1 pc = .ok (.l2i, 1)) (k : td_J G d M Post (pc + 1) lv (.int x.toInt32 :: st) h) : td_J G d M Post pc lv (.long x :: st) h := fun p e s m args below meth c H locs ls X => lv_l2i X.1 X.2.1 hd rfl (k p e s m args below meth c H locs ls X)
theorem td_i2b {x : Int32} (hd : decode M.2.1 pc = .ok (.i2b, 1)) (k : td_J G d M Post (pc + 1) lv (.int x.toInt8.toInt32 :: st) h) : td_J G d M Post pc lv (.int x :: st) h := fun p e s m args below meth c H locs ls X => lv_i2b X.1 X.2.1 hd rfl (k p e s m args below meth c H locs ls X)
theorem td_i2s {x : Int32} (hd : decode M.2.1 pc = .ok (.i2s, 1)) (k : td_J G d M Post (pc + 1) lv (.int x.toInt16.toInt32 :: st) h) : td_J G d M Post pc lv (.int x :: st) h := fun p e s m args below meth c H locs ls X => lv_i2s X.1 X.2.1 hd rfl (k p e s m args below meth c H locs ls X)
theorem td_i2c {x : Int32} (hd : decode M.2.1 pc = .ok (.i2c, 1)) (k : td_J G d M Post (pc + 1) lv (.int (x.toUInt32 % 65536).toInt32 :: st) h) : td_J G d M Post pc lv (.int x :: st) h := fun p e s m args below meth c H locs ls X => lv_i2c X.1 X.2.1 hd rfl (k p e s m args below meth c H locs ls X)
theorem td_lcmp {x y : Int64} (hd : decode M.2.1 pc = .ok (.lcmp, 1)) (k : td_J G d M Post (pc + 1) lv (.int (lg_cmp x y) :: st) h) : td_J G d M Post pc lv (.long y :: .long x :: st) h := fun p e s m args below meth c H locs ls X => W.lcmp X.1 X.2.1 hd (k p e s m args below meth c H locs ls X)
theorem td_dup {v : Value} (hd : decode M.2.1 pc = .ok (.dup, 1)) (hc : v.category = 1) (k : td_J G d M Post (pc + 1) lv (v :: v :: st) h) : td_J G d M Post pc lv (v :: st) h := fun p e s m args below meth c H locs ls X => lv_dup X.1 X.2.1 hd (by cases v <;> first | rfl | cases hc) (k p e s m args below meth c H locs ls X)
theorem td_pop {v : Value} (hd : decode M.2.1 pc = .ok (.pop, 1)) (hc : v.category = 1) (k : td_J G d M Post (pc + 1) lv st h) : td_J G d M Post pc lv (v :: st) h := fun p e s m args below meth c H locs ls X => lv_pop X.1 X.2.1 hd (by cases v <;> first | rfl | cases hc) (k p e s m args below meth c H locs ls X)
theorem td_dup2 {v w : Value} (hd : decode M.2.1 pc = .ok (.dup2, 1)) (hc : v.category = 1) (hc2 : w.category = 1) (k : td_J G d M Post (pc + 1) lv (v :: w :: v :: w :: st) h) : td_J G d M Post pc lv (v :: w :: st) h := fun p e s m args below meth c H locs ls X => lv_dup2_11 X.1 X.2.1 hd (by cases v <;> first | rfl | cases hc) (by cases w <;> first | rfl | cases hc2) (k p e s m args below meth c H locs ls X)
theorem td_goto {off : Int} {tgt : Nat} (hd : decode M.2.1 pc = .ok (.goto off, 3)) (ht : (pc : Int) + off = (tgt : Int)) (k : td_J G d M Post tgt lv st h) : td_J G d M Post pc lv st h := fun p e s m args below meth c H locs ls X => lv_goto X.1 X.2.1 hd ht (k p e s m args below meth c H locs ls X)
theorem td_if_eq {x : Int32} {off : Int} {tgt : Nat} (hd : decode M.2.1 pc = .ok (.ifCond .eq off, 3)) (ht : (pc : Int) + off = (tgt : Int)) (kt : x = 0 → td_J G d M Post tgt lv st h) (kf : ¬ x = 0 → td_J G d M Post (pc + 3) lv st h) : td_J G d M Post pc lv (.int x :: st) h := fun p e s m args below meth c H locs ls X => lv_if_eq X.1 X.2.1 hd ht (fun q => kt q p e s m args below meth c H locs ls X) (fun q => kf q p e s m args below meth c H locs ls X)
theorem td_icmp_eq {x y : Int32} {off : Int} {tgt : Nat} (hd : decode M.2.1 pc = .ok (.if_icmp .eq off, 3)) (ht : (pc : Int) + off = (tgt : Int)) (kt : x = y → td_J G d M Post tgt lv st h) (kf : ¬ x = y → td_J G d M Post (pc + 3) lv st h) : td_J G d M Post pc lv (.int y :: .int x :: st) h := fun p e s m args below meth c H locs ls X => lv_icmp_eq X.1 X.2.1 hd ht (fun q => kt q p e s m args below meth c H locs ls X) (fun q => kf q p e s m args below meth c H locs ls X)
theorem td_if_ne {x : Int32} {off : Int} {tgt : Nat} (hd : decode M.2.1 pc = .ok (.ifCond .ne off, 3)) (ht : (pc : Int) + off = (tgt : Int)) (kt : ¬ x = 0 → td_J G d M Post tgt lv st h) (kf : x = 0 → td_J G d M Post (pc + 3) lv st h) : td_J G d M Post pc lv (.int x :: st) h := fun p e s m args below meth c H locs ls X => lv_if_ne X.1 X.2.1 hd ht (fun q => kt q p e s m args below meth c H locs ls X) (fun q => kf q p e s m args below meth c H locs ls X)
theorem td_icmp_ne {x y : Int32} {off : Int} {tgt : Nat} (hd : decode M.2.1 pc = .ok (.if_icmp .ne off, 3)) (ht : (pc : Int) + off = (tgt : Int)) (kt : ¬ x = y → td_J G d M Post tgt lv st h) (kf : x = y → td_J G d M Post (pc + 3) lv st h) : td_J G d M Post pc lv (.int y :: .int x :: st) h := fun p e s m args below meth c H locs ls X => lv_icmp_ne X.1 X.2.1 hd ht (fun q => kt q p e s m args below meth c H locs ls X) (fun q => kf q p e s m args below meth c H locs ls X)
theorem td_if_lt {x : Int32} {off : Int} {tgt : Nat} (hd : decode M.2.1 pc = .ok (.ifCond .lt off, 3)) (ht : (pc : Int) + off = (tgt : Int)) (kt : x < 0 → td_J G d M Post tgt lv st h) (kf : ¬ x < 0 → td_J G d M Post (pc + 3) lv st h) : td_J G d M Post pc lv (.int x :: st) h := fun p e s m args below meth c H locs ls X => lv_if_lt X.1 X.2.1 hd ht (fun q => kt q p e s m args below meth c H locs ls X) (fun q => kf q p e s m args below meth c H locs ls X)
theorem td_icmp_lt {x y : Int32} {off : Int} {tgt : Nat} (hd : decode M.2.1 pc = .ok (.if_icmp .lt off, 3)) (ht : (pc : Int) + off = (tgt : Int)) (kt : x < y → td_J G d M Post tgt lv st h) (kf : ¬ x < y → td_J G d M Post (pc + 3) lv st h) : td_J G d M Post pc lv (.int y :: .int x :: st) h := fun p e s m args below meth c H locs ls X => lv_icmp_lt X.1 X.2.1 hd ht (fun q => kt q p e s m args below meth c H locs ls X) (fun q => kf q p e s m args below meth c H locs ls X)
theorem td_if_ge {x : Int32} {off : Int} {tgt : Nat} (hd : decode M.2.1 pc = .ok (.ifCond .ge off, 3)) (ht : (pc : Int) + off = (tgt : Int)) (kt : 0 ≤ x → td_J G d M Post tgt lv st h) (kf : ¬ 0 ≤ x → td_J G d M Post (pc + 3) lv st h) : td_J G d M Post pc lv (.int x :: st) h := fun p e s m args below meth c H locs ls X => lv_if_ge X.1 X.2.1 hd ht (fun q => kt q p e s m args below meth c H locs ls X) (fun q => kf q p e s m args below meth c H locs ls X)
theorem td_icmp_ge {x y : Int32} {off : Int} {tgt : Nat} (hd : decode M.2.1 pc = .ok (.if_icmp .ge off, 3)) (ht : (pc : Int) + off = (tgt : Int)) (kt : y ≤ x → td_J G d M Post tgt lv st h) (kf : ¬ y ≤ x → td_J G d M Post (pc + 3) lv st h) : td_J G d M Post pc lv (.int y :: .int x :: st) h := fun p e s m args below meth c H locs ls X => lv_icmp_ge X.1 X.2.1 hd ht (fun q => kt q p e s m args below meth c H locs ls X) (fun q => kf q p e s m args below meth c H locs ls X)
theorem td_if_gt {x : Int32} {off : Int} {tgt : Nat} (hd : decode M.2.1 pc = .ok (.ifCond .gt off, 3)) (ht : (pc : Int) + off = (tgt : Int)) (kt : 0 < x → td_J G d M Post tgt lv st h) (kf : ¬ 0 < x → td_J G d M Post (pc + 3) lv st h) : td_J G d M Post pc lv (.int x :: st) h := fun p e s m args below meth c H locs ls X => lv_if_gt X.1 X.2.1 hd ht (fun q => kt q p e s m args below meth c H locs ls X) (fun q => kf q p e s m args below meth c H locs ls X)
theorem td_icmp_gt {x y : Int32} {off : Int} {tgt : Nat} (hd : decode M.2.1 pc = .ok (.if_icmp .gt off, 3)) (ht : (pc : Int) + off = (tgt : Int)) (kt : y < x → td_J G d M Post tgt lv st h) (kf : ¬ y < x → td_J G d M Post (pc + 3) lv st h) : td_J G d M Post pc lv (.int y :: .int x :: st) h := fun p e s m args below meth c H locs ls X => lv_icmp_gt X.1 X.2.1 hd ht (fun q => kt q p e s m args below meth c H locs ls X) (fun q => kf q p e s m args below meth c H locs ls X)
theorem td_if_le {x : Int32} {off : Int} {tgt : Nat} (hd : decode M.2.1 pc = .ok (.ifCond .le off, 3)) (ht : (pc : Int) + off = (tgt : Int)) (kt : x ≤ 0 → td_J G d M Post tgt lv st h) (kf : ¬ x ≤ 0 → td_J G d M Post (pc + 3) lv st h) : td_J G d M Post pc lv (.int x :: st) h := fun p e s m args below meth c H locs ls X => lv_if_le X.1 X.2.1 hd ht (fun q => kt q p e s m args below meth c H locs ls X) (fun q => kf q p e s m args below meth c H locs ls X)
theorem td_icmp_le {x y : Int32} {off : Int} {tgt : Nat} (hd : decode M.2.1 pc = .ok (.if_icmp .le off, 3)) (ht : (pc : Int) + off = (tgt : Int)) (kt : x ≤ y → td_J G d M Post tgt lv st h) (kf : ¬ x ≤ y → td_J G d M Post (pc + 3) lv st h) : td_J G d M Post pc lv (.int y :: .int x :: st) h := fun p e s m args below meth c H locs ls X => lv_icmp_le X.1 X.2.1 hd ht (fun q => kt q p e s m args below meth c H locs ls X) (fun q => kf q p e s m args below meth c H locs ls X)
theorem td_ldc {index : Nat} {v : Int32} (hw : Jvm.Cond.constant M.1.cls index v ∈ td_all) (hd : decode M.2.1 pc = .ok (.ldc index, 2)) (k : td_J G d M Post (pc + 2) lv (.int v :: st) h) : td_J G d M Post pc lv st h := fun p e s m args below meth c H locs ls X => lv_ldc X.1 X.2.1 X.2.2.2.2.1 (X.2.2.2.2.2.1 _ hw) hd (k p e s m args below meth c H locs ls X)
theorem td_ldcw {index : Nat} {v : Int32} (hw : Jvm.Cond.constant M.1.cls index v ∈ td_all) (hd : decode M.2.1 pc = .ok (.ldc_w index, 3)) (k : td_J G d M Post (pc + 3) lv (.int v :: st) h) : td_J G d M Post pc lv st h := fun p e s m args below meth c H locs ls X => lv_ldcw X.1 X.2.1 X.2.2.2.2.1 (X.2.2.2.2.2.1 _ hw) hd (k p e s m args below meth c H locs ls X)
theorem td_ldc2 {index : Nat} {v : Int64} (hw : Jvm.Cond.constantLong M.1.cls index v ∈ td_all) (hd : decode M.2.1 pc = .ok (.ldc2_w index, 3)) (k : td_J G d M Post (pc + 3) lv (.long v :: st) h) : td_J G d M Post pc lv st h := fun p e s m args below meth c H locs ls X => lv_ldc2 X.1 X.2.1 X.2.2.2.2.1 (X.2.2.2.2.2.1 _ hw) hd (k p e s m args below meth c H locs ls X)
/-! cells -/
theorem td_Eobj {k ci : Nat} (hk : td_kd k = ci) (hc : ci < 20) : td_E G h k = .inr (ci, td_fs G h k) := by unfold td_E; rw [hk, if_pos hc]
theorem td_Earr {k n : Nat} (hk : td_kd k = 100 + n) : td_E G h k = .inl (G.2.2.1, n, .inl (h k)) := by
  unfold td_E
  rw [hk, if_neg (by omega), if_neg (by omega), Nat.add_sub_cancel_left]
theorem td_fs_get {k ci j : Nat} (hk : td_kd k = ci) (hj : j < td_nf ci) : (td_fs G h k)[j]? = some (td_cv G (td_av k (td_sl ci j) (h k j))) := by
  unfold td_fs
  rw [List.getElem?_map, hk, List.getElem?_range hj]
  rfl
theorem td_mapset {α β : Type} (f g : α → β) (l : List α) (j : Nat) (v : β) (h1 : ∀ a, l[j]? = some a → g a = v) (h2 : ∀ i a, i ≠ j → l[i]? = some a → g a = f a) : (l.map f).set j v = l.map g := by
  apply List.ext_getElem?
  intro i
  rw [List.getElem?_set, List.length_map, List.getElem?_map, List.getElem?_map]
  by_cases e : j = i
  · rw [if_pos e]
    subst e
    cases hl : l[j]? with
    | none => rw [if_neg (by rw [List.getElem?_eq_none_iff] at hl; omega)]; rfl
    | some a => rw [if_pos (List.getElem?_eq_some_iff.mp hl).1, Option.map_some, h1 a hl]
  · rw [if_neg e]
    cases hl : l[i]? with
    | none => rfl
    | some a => rw [Option.map_some, Option.map_some, h2 i a (fun z => e z.symm) hl]
theorem td_rng {n i a : Nat} (h : (List.range n)[i]? = some a) : a = i := by
  obtain ⟨h1, h2⟩ := List.getElem?_eq_some_iff.mp h
  rw [List.getElem_range] at h2
  exact h2.symm
theorem td_fs_set {k ci j : Nat} {x : Int32} (hk : td_kd k = ci) (_hj : j < td_nf ci) : (td_fs G h k).set j (td_cv G (td_av k (td_sl ci j) x)) = td_fs G (hu h k j x) k := by
  unfold td_fs
  rw [hk, hu_s]
  refine td_mapset _ _ _ _ _ (fun a ha => ?_) (fun i a hi ha => ?_)
  · have e : a = j := td_rng ha
    rw [e, pk_us]
  · have e : a = i := td_rng ha
    rw [e, pk_un hi]
theorem td_X.put {p : Program} {s : State} {m : MethodId} {args : Array Value} {meth : Method} {c : Code} {H H1 : Heap} {locs locs1 : List Loc} {ls : Array Slot} {h2 : td_H} (X : td_X G M h lv p s m args meth c H locs ls) (hP : va_P G.2.1 vwCl (td_ws G h2) H1) (hD : va_D (td_A G) (td_ws G h2)) (hS : va_S (td_A G) s.heap H1 locs1) : td_X G M h2 lv p s m args meth c H1 locs1 ls := by
  obtain ⟨a1, a2, a3, a4, a5, a6, a7, a8, a9, a10, a11, a12, a13⟩ := X
  exact ⟨a1, a2, a3, a4, a5, a6, a7, a8, a9, hP, hD, hS, a13⟩
theorem td_get {C ref : String} {T : u_T} {N ci index k j : Nat} (hk : td_kd k = ci) (hc : ci < 11) (hcl : vwCl[ci]? = some (C, T, N)) (hN : N = td_nf ci) (hin : ∀ w ∈ u_ws C T N, w ∈ td_all) (hj : j < N) (hr : (T j).1 = ref) (hlink : Cond.fieldLink M.1.cls index ref (T j).2.1 (T j).2.2.1 ∈ td_all) (hd : decode M.2.1 pc = .ok (.getfield index, 3))
    {v : Value} (hv : td_av k (td_sl ci j) (h k j) = v) (kk : td_J G d M Post (pc + 3) lv (v :: st) h) : td_J G d M Post pc lv (.ref k :: st) h := by
  intro p e s m args below meth c H locs ls X
  have kk := kk p e s m args below meth c H locs ls X
  obtain ⟨a1, a2, a3, a4, a5, a6, a7, a8, a9, a10, a11, a12, a13⟩ := X
  have hK := td_kd_lt hk (by omega)
  have he := td_ws_get G h hK
  rw [td_Eobj hk (by omega)] at he
  subst hr
  subst hv
  exact va_get a1 a2 a6 hin a5 a8.1 a10 k he hcl j hj (a6 _ hlink) (fun _ z => z) (td_fs_get hk (hN ▸ hj)) hd kk
theorem td_getN {C ref host : String} {T : u_T} {N ci index k j : Nat} (hk : td_kd k = ci) (hc : ci < 11) (hcl : vwCl[ci]? = some (C, T, N)) (hN : N = td_nf ci) (hin : ∀ w ∈ u_ws C T N, w ∈ td_all) (hj : j < N) (hr : (T j).1 = ref) (hlink : Cond.fieldLinkNest M.1.cls index ref (T j).2.1 (T j).2.2.1 host ∈ td_nest) (hd : decode M.2.1 pc = .ok (.getfield index, 3))
    {v : Value} (hv : td_av k (td_sl ci j) (h k j) = v) (kk : td_J G d M Post (pc + 3) lv (v :: st) h) : td_J G d M Post pc lv (.ref k :: st) h := by
  intro p e s m args below meth c H locs ls X
  have kk := kk p e s m args below meth c H locs ls X
  obtain ⟨a1, a2, a3, a4, a5, a6, a7, a8, a9, a10, a11, a12, a13⟩ := X
  have hK := td_kd_lt hk (by omega)
  have he := td_ws_get G h hK
  rw [td_Eobj hk (by omega)] at he
  subst hr
  subst hv
  exact va_getN a1 a2 a6 hin a5 a8.1 a10 k he hcl j hj (va_Nw.use rfl (a8.2 _ hlink)) (fun _ z => z) (td_fs_get hk (hN ▸ hj)) hd kk
theorem td_put {C ref : String} {T : u_T} {N ci index k j : Nat} {ty0 : Nat → FieldType} (hk : td_kd k = ci) (hc : ci < 11) (hcl : vwCl[ci]? = some (C, T, N)) (hN : N = td_nf ci) (hin : ∀ w ∈ u_ws C T N, w ∈ td_all) (hty : ∀ k, k < N → parseFieldDescriptor (T k).2.2.1 = some (ty0 k)) (hnm : ∀ a, a < N → ∀ b, b < N → a ≠ b → (T a).2.1 ≠ (T b).2.1) (hj : j < N) (hr : (T j).1 = ref) (hfin : (T j).2.2.2 = false) (hlink : Cond.fieldLink M.1.cls index ref (T j).2.1 (T j).2.2.1 ∈ td_all) (hd : decode M.2.1 pc = .ok (.putfield index, 3))
    {v : Value} {x : Int32} (hv : td_av k (td_sl ci j) x = v) (hn : narrow (ty0 j) (td_cv G v) = td_cv G v) (hf : fits (ty0 j) (td_cv G v) = true) (kk : td_J G d M Post (pc + 3) lv st (hu h k j x)) : td_J G d M Post pc lv (v :: .ref k :: st) h := by
  intro p e s m args below meth c H locs ls X
  have X0 := X
  obtain ⟨a1, a2, a3, a4, a5, a6, a7, a8, a9, a10, a11, a12, a13⟩ := X
  have hK := td_kd_lt hk (by omega)
  have he := td_ws_get G h hK
  rw [td_Eobj hk (by omega)] at he
  subst hr
  subst hv
  have e2 : (td_ws G h).set k (td_ad G k, Sum.inr (ci, (td_fs G h k).set j (td_cv G (td_av k (td_sl ci j) x)))) = td_ws G (hu h k j x) := by
    rw [td_fs_set hk (hN ▸ hj), ← td_Eobj (h := hu h k j x) hk (by omega)]
    exact td_ws_set G h _ hK
  refine va_put a1 a2 a6 hin ty0 hty hnm a5 a8.1 a10 a11 a12 k he hcl j hj (a6 _ hlink) (fun _ z => z) hfin (hty j hj) hn hf ?_ hd (fun H1 locs1 hP hD hS => ?_)
  · unfold td_fs
    rw [List.length_map, List.length_range, hk, ← hN]
    exact hj
  · rw [e2] at hP hD
    exact kk p e s m args below meth c H1 locs1 ls (X0.put hP hD hS)
theorem td_putN {C ref host : String} {T : u_T} {N ci index k j : Nat} {ty0 : Nat → FieldType} (hk : td_kd k = ci) (hc : ci < 11) (hcl : vwCl[ci]? = some (C, T, N)) (hN : N = td_nf ci) (hin : ∀ w ∈ u_ws C T N, w ∈ td_all) (hty : ∀ k, k < N → parseFieldDescriptor (T k).2.2.1 = some (ty0 k)) (hnm : ∀ a, a < N → ∀ b, b < N → a ≠ b → (T a).2.1 ≠ (T b).2.1) (hj : j < N) (hr : (T j).1 = ref) (hfin : (T j).2.2.2 = false) (hlink : Cond.fieldLinkNest M.1.cls index ref (T j).2.1 (T j).2.2.1 host ∈ td_nest) (hd : decode M.2.1 pc = .ok (.putfield index, 3))
    {v : Value} {x : Int32} (hv : td_av k (td_sl ci j) x = v) (hn : narrow (ty0 j) (td_cv G v) = td_cv G v) (hf : fits (ty0 j) (td_cv G v) = true) (kk : td_J G d M Post (pc + 3) lv st (hu h k j x)) : td_J G d M Post pc lv (v :: .ref k :: st) h := by
  intro p e s m args below meth c H locs ls X
  have X0 := X
  obtain ⟨a1, a2, a3, a4, a5, a6, a7, a8, a9, a10, a11, a12, a13⟩ := X
  have hK := td_kd_lt hk (by omega)
  have he := td_ws_get G h hK
  rw [td_Eobj hk (by omega)] at he
  subst hr
  subst hv
  have e2 : (td_ws G h).set k (td_ad G k, Sum.inr (ci, (td_fs G h k).set j (td_cv G (td_av k (td_sl ci j) x)))) = td_ws G (hu h k j x) := by
    rw [td_fs_set hk (hN ▸ hj), ← td_Eobj (h := hu h k j x) hk (by omega)]
    exact td_ws_set G h _ hK
  refine va_putN a1 a2 a6 hin ty0 hty hnm a5 a8.1 a10 a11 a12 k he hcl j hj (va_Nw.use rfl (a8.2 _ hlink)) (fun _ z => z) hfin (hty j hj) hn hf ?_ hd (fun H1 locs1 hP hD hS => ?_)
  · unfold td_fs
    rw [List.length_map, List.length_range, hk, ← hN]
    exact hj
  · rw [e2] at hP hD
    exact kk p e s m args below meth c H1 locs1 ls (X0.put hP hD hS)
theorem td_iald {k n : Nat} {i : Int32} (hk : td_kd k = 100 + n) (hn : n ≠ 899) (hin : vp_in i n) (hd : decode M.2.1 pc = .ok (.iaload, 1)) (kk : td_J G d M Post (pc + 1) lv (.int (h k (ix i)) :: st) h) : td_J G d M Post pc lv (.int i :: .ref k :: st) h := by
  intro p e s m args below meth c H locs ls X
  have kk := kk p e s m args below meth c H locs ls X
  obtain ⟨a1, a2, a3, a4, a5, a6, a7, a8, a9, a10, a11, a12, a13⟩ := X
  have he := td_ws_get G h (td_kd_lt hk (by omega))
  rw [td_Earr hk] at he
  exact va_iald a1 a2 a8.1 a10 k 0 he rfl hin hd kk
theorem td_iast {k n : Nat} {i x : Int32} (hk : td_kd k = 100 + n) (hn : n ≠ 899) (hin : vp_in i n) (hd : decode M.2.1 pc = .ok (.iastore, 1)) (kk : td_J G d M Post (pc + 1) lv st (hu h k (ix i) x)) : td_J G d M Post pc lv (.int x :: .int i :: .ref k :: st) h := by
  intro p e s m args below meth c H locs ls X
  have X0 := X
  obtain ⟨a1, a2, a3, a4, a5, a6, a7, a8, a9, a10, a11, a12, a13⟩ := X
  have hK := td_kd_lt hk (by omega)
  have he := td_ws_get G h hK
  rw [td_Earr hk] at he
  have e2 : (td_ws G h).set k (td_ad G k, Sum.inl (G.2.2.1, n, Sum.inl (upd (h k) (ix i) x))) = td_ws G (hu h k (ix i) x) := by
    rw [← hu_s, ← td_Earr (h := hu h k (ix i) x) hk]
    exact td_ws_set G h _ hK
  refine va_iast a1 a2 a8.1 a10 a11 a12 k 0 he rfl hin hd (fun H1 locs1 hP hD hS => ?_)
  rw [e2] at hP hD
  exact kk p e s m args below meth c H1 locs1 ls (X0.put hP hD hS)
theorem td_alen {k n : Nat} {v : Int32} (hk : td_kd k = 100 + n) (hn : n ≠ 899) (hv : Int32.ofNat n = v) (hd : decode M.2.1 pc = .ok (.arraylength, 1)) (kk : td_J G d M Post (pc + 1) lv (.int v :: st) h) : td_J G d M Post pc lv (.ref k :: st) h := by
  intro p e s m args below meth c H locs ls X
  have kk := kk p e s m args below meth c H locs ls X
  obtain ⟨a1, a2, a3, a4, a5, a6, a7, a8, a9, a10, a11, a12, a13⟩ := X
  have he := td_ws_get G h (td_kd_lt hk (by omega))
  rw [td_Earr hk] at he
  exact va_alen a1 a2 a8.1 a10 k 0 he (ty := .int) rfl hv hd kk
theorem td_aald {i : Int32} (hin : vp_in i 4) (hd : decode M.2.1 pc = .ok (.aaload, 1)) (kk : td_J G d M Post (pc + 1) lv (.ref (77 + 2 * ix i) :: st) h) : td_J G d M Post pc lv (.int i :: .ref 16 :: st) h := by
  intro p e s m args below meth c H locs ls X
  have kk := kk p e s m args below meth c H locs ls X
  obtain ⟨a1, a2, a3, a4, a5, a6, a7, a8, a9, a10, a11, a12, a13⟩ := X
  have he := td_ws_get G h (k := 16) (by decide)
  have e3 : td_E G h 16 = .inl (G.2.2.2.1, 4, .inr (.inr (.inr (.inr (fun i => some (td_ad G (77 + 2 * i))))))) := rfl
  rw [e3] at he
  exact va_aldq a1 a2 a8.1 a10 16 1 he (C := RX6) rfl hin hd kk
theorem td_gets {i index : Nat} (hi : i < 5) (hlink : Cond.fieldLink M.1.cls index RX9 (td_sn i) "[I" ∈ td_all) (hd : decode M.2.1 pc = .ok (.getstatic index, 3)) (kk : td_J G d M Post (pc + 3) lv (.ref (1000 + i) :: st) h) : td_J G d M Post pc lv st h := by
  intro p e s m args below meth c H locs ls X
  have kk := kk p e s m args below meth c H locs ls X
  obtain ⟨a1, a2, a3, a4, a5, a6, a7, a8, a9, a10, a11, a12, a13⟩ := X
  exact va_gets a1 a2 (a9.1 i hi).1 a12 a5 (a6 _ hlink) (fun _ z => z) hd kk
theorem td_getsN {i index : Nat} {host : String} (hi : i < 5) (hlink : Cond.fieldLinkNest M.1.cls index RX9 (td_sn i) "[I" host ∈ td_nest) (hd : decode M.2.1 pc = .ok (.getstatic index, 3)) (kk : td_J G d M Post (pc + 3) lv (.ref (1000 + i) :: st) h) : td_J G d M Post pc lv st h := by
  intro p e s m args below meth c H locs ls X
  have kk := kk p e s m args below meth c H locs ls X
  obtain ⟨a1, a2, a3, a4, a5, a6, a7, a8, a9, a10, a11, a12, a13⟩ := X
  exact va_getsN a1 a2 (a9.1 i hi).1 a12 a5 (va_Nw.use rfl (a8.2 _ hlink)) (fun _ z => z) hd kk
theorem td_ti {t : Nat} {i : Int32} (ht : t < 5) (hin : vp_in i (td_st t).length) (hd : decode M.2.1 pc = .ok (.iaload, 1)) (kk : td_J G d M Post (pc + 1) lv (.int ((td_st t).getD (ix i) 0) :: st) h) : td_J G d M Post pc lv (.int i :: .ref (1000 + t) :: st) h := by
  intro p e s m args below meth c H locs ls X
  have kk := kk p e s m args below meth c H locs ls X
  obtain ⟨a1, a2, a3, a4, a5, a6, a7, a8, a9, a10, a11, a12, a13⟩ := X
  exact va_ti a1 a2 (a9.1 t ht).2 a12 hin rfl hd kk
/-! ends -/
theorem td_end {p : Program} {s : State} {m : MethodId} {args : Array Value} {meth : Method} {c : Code} {H : Heap} {locs : List Loc} {ls : Array Slot} (X : td_X G M h lv p s m args meth c H locs ls) {r : Option Value} (hp : Post r h) : ∀ t : State, t.heap = H → s.WarmedH t.vm → td_Q G Post args s (.returned (r.map (td_cv G))) t := by
  intro t ht hW
  obtain ⟨a1, a2, a3, a4, a5, a6, a7, a8, a9, a10, a11, a12, a13⟩ := X
  refine ⟨⟨r, h, rfl, hp, by rw [ht]; exact a10, a11, a8.moved hW, ?_⟩, a12.F ht⟩
  exact td_T.moved hW.alike (fun _ z => vk_R.warm hW z) a9 (fun a h1 h2 => by rw [ht]; exact a12.2.1 a h1 h2)
theorem td_ireturn {x : Int32} (hret : M.2.2.2 = some .int) (hd : decode M.2.1 pc = .ok (.ireturn, 1)) (hp : Post (some (.int x)) h) : td_J G d M Post pc lv [.int x] h := by
  intro p e s m args below meth c H locs ls X
  exact W.iret X.1 X.2.1 (X.2.2.1.trans hret) (td_end (r := some (.int x)) X hp) (fun q hq => X.2.2.2.2.2.2.2.2.2.2.2.1.2.2 q hq) hd X.2.2.2.2.2.2.1
theorem td_zreturn {x : Int32} (hret : M.2.2.2 = some .boolean) (hn : narrow .boolean (.int x) = .int x) (hd : decode M.2.1 pc = .ok (.ireturn, 1)) (hp : Post (some (.int x)) h) : td_J G d M Post pc lv [.int x] h := by
  intro p e s m args below meth c H locs ls X
  exact W.zret X.1 X.2.1 (X.2.2.1.trans hret) hn (td_end (r := some (.int x)) X hp) (fun q hq => X.2.2.2.2.2.2.2.2.2.2.2.1.2.2 q hq) hd X.2.2.2.2.2.2.1
theorem td_return (hret : M.2.2.2 = none) (hd : decode M.2.1 pc = .ok (.return_, 1)) (hp : Post none h) : td_J G d M Post pc lv [] h := by
  intro p e s m args below meth c H locs ls X
  exact W.vret X.1 X.2.1 (X.2.2.1.trans hret) (td_end (r := none) X hp) (fun q hq => X.2.2.2.2.2.2.2.2.2.2.2.1.2.2 q hq) hd X.2.2.2.2.2.2.1
/-! calls -/
theorem td_blind (as : List Value) : FrameBlind (va_Pc (as.map (td_cv G)) (td_W G h)) := fun a U g mk q => by
  obtain ⟨q0, qP, qD, qK, qT⟩ := q
  exact ⟨q0, qP, qD, ⟨va_K.moved (u := U) (U := U.calling g mk a) (Vm.Alike.refl U.vm) qK.1, fun w hw => td_Nsame (s := U) (U := U.calling g mk a) hw rfl (qK.2 w hw)⟩, td_T.moved (s := U) (U := U.calling g mk a) (Vm.Alike.refl U.vm) (fun _ z => vk_R.same rfl z) qT (fun _ _ _ => rfl)⟩
theorem td_pre {p : Program} {s : State} {m : MethodId} {args : Array Value} {meth : Method} {c : Code} {H : Heap} {locs : List Loc} {ls : Array Slot} (X : td_X G M h lv p s m args meth c H locs ls) (as : List Value) : ∀ U : State, U.heap = H → s.WarmedH U.vm → va_Pc (as.map (td_cv G)) (td_W G h) (as.map (td_cv G)).toArray U := by
  intro U hU hW
  obtain ⟨a1, a2, a3, a4, a5, a6, a7, a8, a9, a10, a11, a12, a13⟩ := X
  exact ⟨rfl, by rw [hU]; exact a10, a11, a8.moved hW, td_T.moved hW.alike (fun _ z => vk_R.warm hW z) a9 (fun a h1 h2 => by rw [hU]; exact a12.2.1 a h1 h2)⟩
theorem td_cat (st : List Value) : ((st.map (td_cv G)).map fun v => v.category) = st.map fun v => v.category := by
  induction st with
  | nil => rfl
  | cons v vs ih =>
    rw [List.map_cons, List.map_cons, List.map_cons, ih]
    cases v <;> rfl
theorem td_cont {p : Program} {e : Env} {s : State} {m : MethodId} {args : Array Value} {below : List Frame} {meth : Method} {c : Code} {H : Heap} {locs : List Loc} {ls : Array Slot} {P1 : td_P} {a : Array Value} {st0 : List Value} (X : td_X G M h lv p s m args meth c H locs ls)
    (hr : va_Run p G.1 e (td_rm d) s m args below meth c H locs 0 0 0 0 (F0 m pc ls st0) (st.map (td_cv G)) (td_Q G P1 a) (td_A G)) (kk : ∀ r h1, P1 r h1 → td_J G d M Post (pc + 3) lv (r.toList ++ st) h1) :
    W p G.1 e (td_rm d) s m args below meth c H locs 0 0 (MQ below (td_Q G Post) args s 0 0 (td_A G)) (F0 m pc ls st0) := by
  intro T hT XT
  obtain ⟨v, st₀, t, T', L, h0, X', hL, e1, e2, ⟨⟨r, h1, hv, hp, hw⟩, hz, hk⟩, stp⟩ := hr T hT XT
  obtain ⟨a1, a2, a3, a4, a5, a6, a7, a8, a9, a10, a11, a12, a13⟩ := X
  have hv : v = r.map (td_cv G) := by cases hv; rfl
  subst hv
  rw [h0] at hz hk
  have hS : va_S (td_A G) s.heap T'.heap (locs ++ L) := ⟨Nat.le_trans a12.1 (by rw [e1]; exact hz), fun q g1 g2 => by rw [e1, hk q (Nat.lt_of_lt_of_le g1 a12.1) g2]; exact a12.2.1 q g1 g2, fun q hq => by
      rcases List.mem_append.mp hq with z | z
      · exact a12.2.2 q z
      · exact hL q z⟩
  obtain ⟨t2, b1, b2⟩ := kk r h1 hp p e s m args below meth c T'.heap (locs ++ L) ls ⟨a1, a2, a3, a4, a5, a6, a7, a8, a9, by rw [e1]; exact hw.1, hw.2.1, hS, a13⟩ T' rfl X'
  have es : (r.toList ++ st).map (td_cv G) = (r.map (td_cv G)).toList ++ st.map (td_cv G) := by cases r <;> simp
  rw [es] at b1
  exact ⟨t2, stp t2 b1, b2⟩
def td_no (y : MethodName) (n : Nat) : Prop := y.cls ≠ "java/lang/invoke/MethodHandle" ∧ y.cls ≠ "java/lang/invoke/VarHandle" ∧ (parseMethodDescriptor y.desc).map (fun d => d.parameters.length) = some n
theorem td_GI {ws : List Cond} (h : ∀ w ∈ ws, w ∈ td_all) : GoodIn td_all ws := fun w hw => ⟨h w hw, td_good (h w hw)⟩
theorem td_wlin {Mc : td_M} (h : Cond.code Mc.1 Mc.2.1 Mc.2.2.1 Mc.2.2.2 ∈ td_all) : ∀ w ∈ td_wl Mc, w ∈ td_all := fun w hw => by
  rcases List.mem_cons.mp hw with e | e
  · rw [e]; exact h
  · exact e
theorem td_rmok {Mc : td_M} (hm : Mc.2.2.1 ≤ 21) : (td_rm d).frames + 1 ≤ (td_rm (d + 1)).frames ∧ 8 + (Mc.2.2.1 + 11) + (td_rm d).locals ≤ (td_rm (d + 1)).locals := ⟨Nat.le_refl _, by show 8 + (Mc.2.2.1 + 11) + 40 * d ≤ 40 * (d + 1); omega⟩
theorem td_stk (as st : List Value) (k : Nat) : (as.reverse ++ Value.ref k :: st).map (td_cv G) = (as.map (td_cv G)).reverse ++ Value.ref (td_ad G k) :: st.map (td_cv G) := by
  rw [List.map_append, List.map_reverse]
  rfl
theorem td_callV {Mc : td_M} {C : String} {T : u_T} {N ci k index : Nat} {as : List Value} {P1 : td_P} (hkd : td_kd k = ci) (hc : ci < 11) (hcl : vwCl[ci]? = some (C, T, N)) (hC : Mc.1.cls = C) (w1 : Cond.methodLink M.1.cls index Mc.1 ∈ td_all) (w2 : Cond.instanceMethod Mc.1 ∈ td_all) (w3 : Cond.selects C Mc.1 Mc.1 ∈ td_all) (w4 : Cond.initialized C ∈ td_all) (w5 : Cond.code Mc.1 Mc.2.1 Mc.2.2.1 Mc.2.2.2 ∈ td_all)
    (hno : td_no Mc.1 as.length) (hm : Mc.2.2.1 ≤ 21) (hd : decode M.2.1 pc = .ok (.invokevirtual index, 3)) (hst : (st.map fun v => v.category).sum ≤ 8) (ct : td_C G d Mc (.ref k :: as) h P1) (kk : ∀ r h1, P1 r h1 → td_J G (d + 1) M Post (pc + 3) lv (r.toList ++ st) h1) : td_J G (d + 1) M Post pc lv (as.reverse ++ .ref k :: st) h := by
  intro p e s m args below meth c H locs ls X
  have he := td_ws_get G h (td_kd_lt hkd (by omega))
  rw [td_Eobj hkd (by omega)] at he
  subst hC
  refine td_cont X (va_runV (As := as.map (td_cv G)) (b := td_ad G k) ⟨X.1, X.2.1, X.2.2.2.1, X.2.2.2.2.1, X.2.2.2.2.2.1⟩ ct (cwV as.length X.2.2.2.2.2.1 (td_GI ?_) rfl rfl rfl ⟨rfl, hno⟩ (td_rmok hm)) ⟨td_blind _, va_recv X.2.2.2.2.2.2.2.1.1 X.2.2.2.2.2.2.2.2.2.1 hcl he, td_pre X (.ref k :: as)⟩ rfl (List.length_map _) X.lh.1 (td_stk as st k) (lv_room (by rw [td_cat]; exact hst)) hd ⟨Nat.le_refl _, Nat.le_refl _⟩) kk
  intro w hw
  unfold wsV at hw
  rcases List.mem_append.mp hw with z | z
  · simp only [List.mem_cons, List.not_mem_nil, or_false] at z
    rcases z with z | z | z | z <;> rw [z] <;> assumption
  · exact td_wlin w5 w z
theorem td_callVN {Mc : td_M} {C host : String} {T : u_T} {N ci k index : Nat} {as : List Value} {P1 : td_P} (hkd : td_kd k = ci) (hc : ci < 11) (hcl : vwCl[ci]? = some (C, T, N)) (hC : Mc.1.cls = C) (w1 : Cond.methodLinkNest M.1.cls index Mc.1 host ∈ td_nest) (w2 : Cond.instanceMethod Mc.1 ∈ td_all) (w3 : Cond.selects C Mc.1 Mc.1 ∈ td_all) (w4 : Cond.initialized C ∈ td_all) (w5 : Cond.code Mc.1 Mc.2.1 Mc.2.2.1 Mc.2.2.2 ∈ td_all)
    (hno : td_no Mc.1 as.length) (hm : Mc.2.2.1 ≤ 21) (hd : decode M.2.1 pc = .ok (.invokevirtual index, 3)) (hst : (st.map fun v => v.category).sum ≤ 8) (ct : td_C G d Mc (.ref k :: as) h P1) (kk : ∀ r h1, P1 r h1 → td_J G (d + 1) M Post (pc + 3) lv (r.toList ++ st) h1) : td_J G (d + 1) M Post pc lv (as.reverse ++ .ref k :: st) h := by
  intro p e s m args below meth c H locs ls X
  have he := td_ws_get G h (td_kd_lt hkd (by omega))
  rw [td_Eobj hkd (by omega)] at he
  subst hC
  have hts := X.2.2.2.2.2.1
  exact td_cont X (va_runVN (As := as.map (td_cv G)) (b := td_ad G k) ⟨X.1, X.2.1, X.2.2.2.1, X.2.2.2.2.1, X.2.2.2.2.2.1⟩ ct ⟨va_cnB as.length hts (td_GI (td_wlin w5)) rfl rfl rfl (X.2.2.2.2.2.2.2.1.2 _ w1) (hts _ w4) hno (td_rmok hm), hts _ w2, hts _ w3⟩ ⟨td_blind _, va_recv X.2.2.2.2.2.2.2.1.1 X.2.2.2.2.2.2.2.2.2.1 hcl he, td_pre X (.ref k :: as)⟩ rfl (List.length_map _) X.lh.1 (td_stk as st k) (lv_room (by rw [td_cat]; exact hst)) hd ⟨Nat.le_refl _, Nat.le_refl _⟩) kk
theorem td_callS {Mc : td_M} {index : Nat} {as : List Value} {P1 : td_P} (w1 : Cond.methodLink M.1.cls index Mc.1 ∈ td_all) (w2 : Cond.static Mc.1 ∈ td_all) (w4 : Cond.initialized Mc.1.cls ∈ td_all) (w5 : Cond.code Mc.1 Mc.2.1 Mc.2.2.1 Mc.2.2.2 ∈ td_all)
    (hno : td_no Mc.1 as.length) (hm : Mc.2.2.1 ≤ 21) (hd : decode M.2.1 pc = .ok (.invokestatic index, 3)) (hst : (st.map fun v => v.category).sum ≤ 8) (ct : td_C G d Mc as h P1) (kk : ∀ r h1, P1 r h1 → td_J G (d + 1) M Post (pc + 3) lv (r.toList ++ st) h1) : td_J G (d + 1) M Post pc lv (as.reverse ++ st) h := by
  intro p e s m args below meth c H locs ls X
  refine td_cont X (va_runS (As := as.map (td_cv G)) ⟨X.1, X.2.1, X.2.2.2.1, X.2.2.2.2.1, X.2.2.2.2.2.1⟩ ct (va_cwS as.length X.2.2.2.2.2.1 (td_GI ?_) rfl rfl rfl hno (td_rmok hm)) ⟨td_blind _, td_pre X as⟩ rfl (List.length_map _) X.lh.1 (by rw [List.map_append, List.map_reverse]) (lv_room (by rw [td_cat]; exact hst)) hd ⟨Nat.le_refl _, Nat.le_refl _⟩) kk
  intro w hw
  unfold va_wsS at hw
  rcases List.mem_append.mp hw with z | z
  · simp only [List.mem_cons, List.not_mem_nil, or_false] at z
    rcases z with z | z | z <;> rw [z] <;> assumption
  · exact td_wlin w5 w z
theorem td_callSN {Mc : td_M} {host : String} {index : Nat} {as : List Value} {P1 : td_P} (w1 : Cond.methodLinkNest M.1.cls index Mc.1 host ∈ td_nest) (w2 : Cond.static Mc.1 ∈ td_all) (w4 : Cond.initialized Mc.1.cls ∈ td_all) (w5 : Cond.code Mc.1 Mc.2.1 Mc.2.2.1 Mc.2.2.2 ∈ td_all)
    (hno : td_no Mc.1 as.length) (hm : Mc.2.2.1 ≤ 21) (hd : decode M.2.1 pc = .ok (.invokestatic index, 3)) (hst : (st.map fun v => v.category).sum ≤ 8) (ct : td_C G d Mc as h P1) (kk : ∀ r h1, P1 r h1 → td_J G (d + 1) M Post (pc + 3) lv (r.toList ++ st) h1) : td_J G (d + 1) M Post pc lv (as.reverse ++ st) h := by
  intro p e s m args below meth c H locs ls X
  have hts := X.2.2.2.2.2.1
  exact td_cont X (va_runSN (As := as.map (td_cv G)) ⟨X.1, X.2.1, X.2.2.2.1, X.2.2.2.2.1, X.2.2.2.2.2.1⟩ ct ⟨va_cnB as.length hts (td_GI (td_wlin w5)) rfl rfl rfl (X.2.2.2.2.2.2.2.1.2 _ w1) (hts _ w4) hno (td_rmok hm), hts _ w2, trivial⟩ ⟨td_blind _, td_pre X as⟩ rfl (List.length_map _) X.lh.1 (by rw [List.map_append, List.map_reverse]) (lv_room (by rw [td_cat]; exact hst)) hd ⟨Nat.le_refl _, Nat.le_refl _⟩) kk
/-- weaker posts -/
theorem td_J.weak {Post' : td_P} (k : td_J G d M Post pc lv st h) (hp : ∀ r h', Post r h' → Post' r h') : td_J G d M Post' pc lv st h := by
  intro p e s m args below meth c H locs ls X T hT XT
  obtain ⟨t, h1, o, h2, h3, ⟨⟨r, h', e1, e2, e3⟩, h4⟩, h5⟩ := k p e s m args below meth c H locs ls X T hT XT
  exact ⟨t, h1, o, h2, h3, ⟨⟨r, h', e1, hp r h' e2, e3⟩, h4⟩, h5⟩
/-- a loop that counts: St i is how it stands at its head with i rounds behind it -/
theorem td_loop {St : Nat → List (Nat × Value) × List Value × td_H} (N : Nat) (hs : ∀ i, i < N → td_J G d M Post pc (St (i + 1)).1 (St (i + 1)).2.1 (St (i + 1)).2.2 → td_J G d M Post pc (St i).1 (St i).2.1 (St i).2.2) (hN : td_J G d M Post pc (St N).1 (St N).2.1 (St N).2.2) : td_J G d M Post pc (St 0).1 (St 0).2.1 (St 0).2.2 := by
  have z : ∀ n i, i + n = N → td_J G d M Post pc (St i).1 (St i).2.1 (St i).2.2 := by
    intro n
    induction n with
    | zero => intro i hi; rw [Nat.add_zero] at hi; rw [hi]; exact hN
    | succ n ih => intro i hi; exact hs i (by omega) (ih (i + 1) (by omega))
  exact z N 0 (Nat.zero_add N)
theorem td_eqh {h2 : td_H} (e : h2 = h) (k : td_J G d M Post pc lv st h2) : td_J G d M Post pc lv st h := e ▸ k
theorem td_eqs {st2 : List Value} (e : st2 = st) (k : td_J G d M Post pc lv st2 h) : td_J G d M Post pc lv st h := e ▸ k
theorem td_eql (e : lv2 = lv) (k : td_J G d M Post pc lv2 st h) : td_J G d M Post pc lv st h := e ▸ k
end TDI
