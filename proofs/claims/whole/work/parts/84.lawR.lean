/-! ===== THE LAW: rows ===== -/
abbrev mL_law : td_M := (yL_law, cL_law, 4, some .boolean)
def lwC (G : td_G) (b Ln : Nat) (xs : Nat → Int32) : k_Cx := fun s args _ => args = #[Value.ref b] ∧ va_X b Ln xs s s.heap ∧ b < s.heap.size ∧ G.2.2.2.2.2 = s.heap.size
section KL
variable {G : td_G} {R : Room} {M : td_M} {Cx : k_Cx} {Qf : k_Qf} {pc : Nat} {lv lv2 : List (Nat × Value)} {st : List Value} {L : va_W} {cc sl : Nat}
theorem k_sld {b Ln j : Nat} {xs : Nat → Int32} {i : Int32} (hi : i = nI j) (hj : j < Ln) (hL : Ln ≤ 3072) (hd : decode M.2.1 pc = .ok (.iaload, 1)) (k : k_J G R M (lwC G b Ln xs) Qf (pc + 1) lv (.int (xs j) :: st) L cc sl) : k_J G R M (lwC G b Ln xs) Qf pc lv (.int i :: .ref b :: st) L cc sl := by
  intro p e s m args below meth c H locs ls X hc hl
  have kk := k p e s m args below meth c H locs ls X hc hl
  obtain ⟨a1, a2, a3, a4, a5, a6, a7, a8, a9, a10, a11, a12, a13, a14⟩ := X
  subst hi
  have z := va_sld (i := nI j) (rest := st) (locs := locs) (l := G.1) (e := e) (R := R) (m := m) (args := args) (below := below) (meth := meth) (cells := cc) (slots := sl) (Q := Qf below args s) (ls := ls) a1 a2 hc.2.1 hc.2.2.1 (A := td_A G) (show ¬ G.2.2.2.2.2 ≤ b by rw [hc.2.2.2]; exact Nat.not_le.mpr hc.2.2.1) a14 (vp_in_nI hj (by omega)) hd
  rw [show (nI j).toNatClampNeg = j from ixn (by omega)] at z
  exact z kk
theorem k_slen {b Ln : Nat} {xs : Nat → Int32} (hd : decode M.2.1 pc = .ok (.arraylength, 1)) (k : k_J G R M (lwC G b Ln xs) Qf (pc + 1) lv (.int (nI Ln) :: st) L cc sl) : k_J G R M (lwC G b Ln xs) Qf pc lv (.ref b :: st) L cc sl := by
  intro p e s m args below meth c H locs ls X hc hl
  have kk := k p e s m args below meth c H locs ls X hc hl
  obtain ⟨a1, a2, a3, a4, a5, a6, a7, a8, a9, a10, a11, a12, a13, a14⟩ := X
  exact va_slen a1 a2 hc.2.1 hc.2.2.1 (A := td_A G) (show ¬ G.2.2.2.2.2 ≤ b by rw [hc.2.2.2]; exact Nat.not_le.mpr hc.2.2.1) a14 hd kk
theorem k_iadd {x y : Int32} (hd : decode M.2.1 pc = .ok (.iadd, 1)) (k : k_J G R M Cx Qf (pc + 1) lv (.int (x + y) :: st) L cc sl) : k_J G R M Cx Qf pc lv (.int y :: .int x :: st) L cc sl := fun p e s m args below meth c H locs ls X hc hl => lv_iadd X.1 X.2.1 hd (k p e s m args below meth c H locs ls X hc hl)
theorem k_isub {x y : Int32} (hd : decode M.2.1 pc = .ok (.isub, 1)) (k : k_J G R M Cx Qf (pc + 1) lv (.int (x - y) :: st) L cc sl) : k_J G R M Cx Qf pc lv (.int y :: .int x :: st) L cc sl := fun p e s m args below meth c H locs ls X hc hl => lv_isub X.1 X.2.1 hd (k p e s m args below meth c H locs ls X hc hl)
theorem k_iand {x y : Int32} (hd : decode M.2.1 pc = .ok (.iand, 1)) (k : k_J G R M Cx Qf (pc + 1) lv (.int (x &&& y) :: st) L cc sl) : k_J G R M Cx Qf pc lv (.int y :: .int x :: st) L cc sl := fun p e s m args below meth c H locs ls X hc hl => lv_iand X.1 X.2.1 hd (k p e s m args below meth c H locs ls X hc hl)
theorem k_i2l {x : Int32} (hd : decode M.2.1 pc = .ok (.i2l, 1)) (k : k_J G R M Cx Qf (pc + 1) lv (.long x.toInt64 :: st) L cc sl) : k_J G R M Cx Qf pc lv (.int x :: st) L cc sl := fun p e s m args below meth c H locs ls X hc hl => lv_i2l X.1 X.2.1 hd rfl (k p e s m args below meth c H locs ls X hc hl)
theorem k_lshl {x : Int64} {y : Int32} (hd : decode M.2.1 pc = .ok (.lshl, 1)) (k : k_J G R M Cx Qf (pc + 1) lv (.long (x <<< (y.toInt64 &&& 63)) :: st) L cc sl) : k_J G R M Cx Qf pc lv (.int y :: .long x :: st) L cc sl := fun p e s m args below meth c H locs ls X hc hl => lv_lshl X.1 X.2.1 hd rfl (k p e s m args below meth c H locs ls X hc hl)
theorem k_ldc2 {index : Nat} {v : Int64} (hw : Jvm.Cond.constantLong M.1.cls index v ∈ td_all) (hd : decode M.2.1 pc = .ok (.ldc2_w index, 3)) (k : k_J G R M Cx Qf (pc + 3) lv (.long v :: st) L cc sl) : k_J G R M Cx Qf pc lv st L cc sl := fun p e s m args below meth c H locs ls X hc hl => lv_ldc2 X.1 X.2.1 X.2.2.2.2.1 (X.2.2.2.2.2.1 _ hw) hd (k p e s m args below meth c H locs ls X hc hl)
theorem k_land {x y : Int64} (hd : decode M.2.1 pc = .ok (.land, 1)) (k : k_J G R M Cx Qf (pc + 1) lv (.long (x &&& y) :: st) L cc sl) : k_J G R M Cx Qf pc lv (.long y :: .long x :: st) L cc sl := fun p e s m args below meth c H locs ls X hc hl => lv_land X.1 X.2.1 hd (k p e s m args below meth c H locs ls X hc hl)
theorem k_lor {x y : Int64} (hd : decode M.2.1 pc = .ok (.lor, 1)) (k : k_J G R M Cx Qf (pc + 1) lv (.long (x ||| y) :: st) L cc sl) : k_J G R M Cx Qf pc lv (.long y :: .long x :: st) L cc sl := fun p e s m args below meth c H locs ls X hc hl => lv_lor X.1 X.2.1 hd (k p e s m args below meth c H locs ls X hc hl)
theorem k_tsin {dflt lo hi : Int} {offs : Array Int} {len : Nat} {x : Int32} {off : Int} {tgt : Nat} (hd : decode M.2.1 pc = .ok (.tableswitch dflt lo hi offs, len)) (h1 : ¬ x.toInt < lo) (h2 : ¬ hi < x.toInt) (ho : offs[(x.toInt - lo).toNat]? = some off) (ht : (pc : Int) + off = (tgt : Int)) (k : k_J G R M Cx Qf tgt lv st L cc sl) : k_J G R M Cx Qf pc lv (.int x :: st) L cc sl := fun p e s m args below meth c H locs ls X hc hl => lv_tableIn X.1 X.2.1 hd h1 h2 ho ht (k p e s m args below meth c H locs ls X hc hl)
theorem k_tsout {dflt lo hi : Int} {offs : Array Int} {len : Nat} {x : Int32} {tgt : Nat} (hd : decode M.2.1 pc = .ok (.tableswitch dflt lo hi offs, len)) (h1 : x.toInt < lo ∨ hi < x.toInt) (ht : (pc : Int) + dflt = (tgt : Int)) (k : k_J G R M Cx Qf tgt lv st L cc sl) : k_J G R M Cx Qf pc lv (.int x :: st) L cc sl := fun p e s m args below meth c H locs ls X hc hl => lv_tableOut X.1 X.2.1 hd h1 ht (k p e s m args below meth c H locs ls X hc hl)
theorem k_preD {h : td_H} {p : Program} {s : State} {m : MethodId} {args : Array Value} {meth : Method} {c : Code} {H : Heap} {locs : List Loc} (X : k_X G M (td_ws G h) p s m args meth c H locs) (as : List Value) : ∀ U : State, U.heap = H → s.WarmedH U.vm → va_Pc (as.map (td_cv G)) (td_W G h) (as.map (td_cv G)).toArray U := by
  intro U hU hW
  obtain ⟨a1, a2, a3, a4, a5, a6, a7, a8, a9, a10, a11, a12, a13, a14⟩ := X
  exact ⟨rfl, by rw [hU]; exact a12, a13, a8.moved hW, td_T.moved hW.alike (fun _ z => vk_R.warm hW z) a9 (fun a h1 h2 => by rw [hU]; exact a14.2.1 a h1 h2)⟩
theorem k_contD {h : td_H} {p : Program} {e : Env} {s : State} {m : MethodId} {args : Array Value} {below : List Frame} {meth : Method} {c : Code} {H : Heap} {locs : List Loc} {ls : Array Slot} {P1 : td_P} {a : Array Value} {st0 : List Value} (X : k_X G M (td_ws G h) p s m args meth c H locs) (hc : Cx s args meth) (hl : lv_has ls M.2.2.1 lv)
    (hr : va_Run p G.1 e R s m args below meth c H locs cc sl 0 0 (F0 m pc ls st0) st (td_Q G P1 a) (td_A G)) (kk : ∀ r h1, P1 r h1 → k_J G R M Cx Qf (pc + 3) lv ((r.map (td_cv G)).toList ++ st) (td_ws G h1) cc sl) :
    W p G.1 e R s m args below meth c H locs cc sl (Qf below args s) (F0 m pc ls st0) := by
  intro T hT XT
  obtain ⟨v, st₀, t, T', Lo, h0, X', hL, e1, e2, ⟨⟨r, h1, hv, hp, hw⟩, hz, hk⟩, stp⟩ := hr T hT XT
  obtain ⟨a1, a2, a3, a4, a5, a6, a7, a8, a9, a10, a11, a12, a13, a14⟩ := X
  have hv : v = r.map (td_cv G) := by cases hv; rfl
  subst hv
  rw [h0] at hz hk
  have hS : va_S (td_A G) s.heap T'.heap (locs ++ Lo) := ⟨Nat.le_trans a14.1 (by rw [e1]; exact hz), fun q g1 g2 => by rw [e1, hk q (Nat.lt_of_lt_of_le g1 a14.1) g2]; exact a14.2.1 q g1 g2, fun q hq => by
      rcases List.mem_append.mp hq with z | z
      · exact a14.2.2 q z
      · exact hL q z⟩
  obtain ⟨t2, b1, b2⟩ := kk r h1 hp p e s m args below meth c T'.heap (locs ++ Lo) ls ⟨a1, a2, a3, a4, a5, a6, a7, a8, a9, a10, a11, by rw [e1]; exact hw.1, hw.2.1, hS⟩ hc hl T' rfl X'
  exact ⟨t2, stp t2 b1, b2⟩
theorem k_callD {h : td_H} {Mc : td_M} {C : String} {T : u_T} {N ci k index d : Nat} {as : List Value} {P1 : td_P} (hkd : td_kd k = ci) (hc11 : ci < 11) (hcl : vwCl[ci]? = some (C, T, N)) (hC : Mc.1.cls = C) (w1 : Cond.methodLink M.1.cls index Mc.1 ∈ td_all) (w2 : Cond.instanceMethod Mc.1 ∈ td_all) (w3 : Cond.selects C Mc.1 Mc.1 ∈ td_all) (w4 : Cond.initialized C ∈ td_all) (w5 : Cond.code Mc.1 Mc.2.1 Mc.2.2.1 Mc.2.2.2 ∈ td_all)
    (hno : td_no Mc.1 as.length) (hR : d + 1 ≤ R.frames ∧ 8 + (Mc.2.2.1 + 11) + 40 * d ≤ R.locals) (hcs : cc ≤ R.cells ∧ sl ≤ R.slots) (hd : decode M.2.1 pc = .ok (.invokevirtual index, 3)) (hst : (st.map fun v => v.category).sum ≤ 8) (ct : td_C G d Mc (.ref k :: as) h P1) (kk : ∀ r h1, P1 r h1 → k_J G R M Cx Qf (pc + 3) lv ((r.map (td_cv G)).toList ++ st) (td_ws G h1) cc sl) : k_J G R M Cx Qf pc lv ((as.map (td_cv G)).reverse ++ .ref (td_ad G k) :: st) (td_ws G h) cc sl := by
  intro p e s m args below meth c H locs ls X hc hl
  have he := td_ws_get G h (td_kd_lt hkd (by omega))
  rw [td_Eobj hkd (by omega)] at he
  subst hC
  have hts := X.2.2.2.2.2.1
  have hw : ∀ w ∈ wsV M.1.cls index Mc.1.cls Mc.1 (td_wl Mc), w ∈ td_all := by
    intro w hw
    unfold wsV at hw
    rcases List.mem_append.mp hw with z | z
    · simp only [List.mem_cons, List.not_mem_nil, or_false] at z
      rcases z with z | z | z | z <;> rw [z] <;> assumption
    · exact td_wlin w5 w z
  exact k_contD X hc hl (va_runV (As := as.map (td_cv G)) (b := td_ad G k) ⟨X.1, X.2.1, X.2.2.2.1, X.2.2.2.2.1, hts⟩ ct (cwV as.length hts (td_GI hw) rfl rfl rfl ⟨rfl, hno⟩ hR) ⟨td_blind _, va_recv X.2.2.2.2.2.2.2.1.1 X.2.2.2.2.2.2.2.2.2.2.2.1 hcl he, k_preD X (.ref k :: as)⟩ rfl (List.length_map _) hl.1 rfl (lv_room hst) hd ⟨hcs.1, hcs.2⟩) kk
end KL
