/-! ===== WHAT THE MAKERS LEAVE IS A PICTURE ===== -/
def shI : Nat → Int32 := fun b => if b = 1 then -1 else 0
def h0A (a : Nat) : Nat → Int32 := if a = 2 then fstA else if a = 7 then fstA else if a = 33 then fstA else if a = 45 then fstA else if a = 65 then fstA else if a = 17 then (fun b => if b = 5 then nI 32 else 0) else if a = 49 then (fun b => if b = 5 then nI 64 else 0) else if a = 77 then shI else if a = 79 then shI else if a = 81 then shI else if a = 83 then shI else if a = 86 then upd (upd (upd (upd (upd (upd (upd (upd (upd (fun _ => 0) 0 4) 1 2) 2 2) 3 2) 4 2) 5 2) 6 1) 7 3) 8 120 else if a = 104 then upd (upd (upd (upd (fun _ => 0) 0 (-1)) 1 (-1)) 2 (-1)) 3 (-1) else fun _ => 0
def lwAd (L : va_W) (k : Nat) : Nat := ((L[k]?).map Prod.fst).getD 0
theorem lwAd_e {L : va_W} {k q : Nat} {e : va_E} (h : L[k]? = some (q, e)) : lwAd L k = q := by unfold lwAd; rw [h]; rfl
def lwG (G : td_G) (L : va_W) : td_G := (G.1, G.2.1, G.2.2.1, G.2.2.2.1, (fun k => if k < 107 then lwAd L k else td_ad G k), G.2.2.2.2.2)
def lwK (G : td_G) (L : va_W) (k : Nat) : Prop := ∃ e, L[k]? = some (lwAd L k, e) ∧ ∀ D H, va_at D vwCl (lwAd L k, e) H → va_at D vwCl (lwAd L k, td_E (lwG G L) h0A k) H
theorem lwK.of {G : td_G} {L : va_W} {k q : Nat} {e : va_E} (z : L[k]? = some (q, e)) (he : e = td_E (lwG G L) h0A k) : lwK G L k := by
  refine ⟨e, ?_, fun D H x => ?_⟩
  · rw [lwAd_e z]; exact z
  · rw [← he]; exact x
def lwKs (P : Nat → Prop) : Nat → Nat → Prop
  | _, 0 => True
  | n, m + 1 => P n ∧ lwKs P (n + 1) m
theorem lwKs.app {P : Nat → Prop} : ∀ {a n b : Nat}, lwKs P n a → lwKs P (n + a) b → lwKs P n (a + b)
  | 0, n, b, _, y => by rw [Nat.zero_add]; exact y
  | a + 1, n, b, x, y => by
    rw [show a + 1 + b = (a + b) + 1 by omega]
    exact ⟨x.1, lwKs.app x.2 (by rw [show n + 1 + a = n + (a + 1) by omega]; exact y)⟩
theorem lwKs.at {P : Nat → Prop} : ∀ {m n : Nat}, lwKs P n m → ∀ k, n ≤ k → k < n + m → P k
  | 0, n, _, k, h1, h2 => absurd h2 (by omega)
  | m + 1, n, x, k, h1, h2 => by
    by_cases e : k = n
    · rw [e]; exact x.1
    · exact lwKs.at x.2 k (by omega) (by omega)
set_option maxRecDepth 20000 in
theorem ok_plan_1 {G : td_G} {L : va_W} {a : Nat} (h : planAt G L 1 a) : a = lwAd L 1 ∧ lwKs (lwK G L) 1 5 := by
  obtain ⟨q1, q2, q3, q4, z0, z1, z2, z3, z4⟩ := h
  have y1 := lwAd_e z1
  subst y1
  have y2 := lwAd_e z2
  subst y2
  have y3 := lwAd_e z3
  subst y3
  have y4 := lwAd_e z4
  subst y4
  exact ⟨(lwAd_e z0).symm, ⟨lwK.of z0 rfl, lwK.of z1 rfl, lwK.of z2 rfl, lwK.of z3 rfl, lwK.of z4 rfl, trivial⟩⟩
set_option maxRecDepth 20000 in
theorem ok_plan_6 {G : td_G} {L : va_W} {a : Nat} (h : planAt G L 6 a) : a = lwAd L 6 ∧ lwKs (lwK G L) 6 5 := by
  obtain ⟨q1, q2, q3, q4, z0, z1, z2, z3, z4⟩ := h
  have y1 := lwAd_e z1
  subst y1
  have y2 := lwAd_e z2
  subst y2
  have y3 := lwAd_e z3
  subst y3
  have y4 := lwAd_e z4
  subst y4
  exact ⟨(lwAd_e z0).symm, ⟨lwK.of z0 rfl, lwK.of z1 rfl, lwK.of z2 rfl, lwK.of z3 rfl, lwK.of z4 rfl, trivial⟩⟩
set_option maxRecDepth 20000 in
theorem ok_plan_32 {G : td_G} {L : va_W} {a : Nat} (h : planAt G L 32 a) : a = lwAd L 32 ∧ lwKs (lwK G L) 32 5 := by
  obtain ⟨q1, q2, q3, q4, z0, z1, z2, z3, z4⟩ := h
  have y1 := lwAd_e z1
  subst y1
  have y2 := lwAd_e z2
  subst y2
  have y3 := lwAd_e z3
  subst y3
  have y4 := lwAd_e z4
  subst y4
  exact ⟨(lwAd_e z0).symm, ⟨lwK.of z0 rfl, lwK.of z1 rfl, lwK.of z2 rfl, lwK.of z3 rfl, lwK.of z4 rfl, trivial⟩⟩
set_option maxRecDepth 20000 in
theorem ok_plan_44 {G : td_G} {L : va_W} {a : Nat} (h : planAt G L 44 a) : a = lwAd L 44 ∧ lwKs (lwK G L) 44 5 := by
  obtain ⟨q1, q2, q3, q4, z0, z1, z2, z3, z4⟩ := h
  have y1 := lwAd_e z1
  subst y1
  have y2 := lwAd_e z2
  subst y2
  have y3 := lwAd_e z3
  subst y3
  have y4 := lwAd_e z4
  subst y4
  exact ⟨(lwAd_e z0).symm, ⟨lwK.of z0 rfl, lwK.of z1 rfl, lwK.of z2 rfl, lwK.of z3 rfl, lwK.of z4 rfl, trivial⟩⟩
set_option maxRecDepth 20000 in
theorem ok_plan_64 {G : td_G} {L : va_W} {a : Nat} (h : planAt G L 64 a) : a = lwAd L 64 ∧ lwKs (lwK G L) 64 5 := by
  obtain ⟨q1, q2, q3, q4, z0, z1, z2, z3, z4⟩ := h
  have y1 := lwAd_e z1
  subst y1
  have y2 := lwAd_e z2
  subst y2
  have y3 := lwAd_e z3
  subst y3
  have y4 := lwAd_e z4
  subst y4
  exact ⟨(lwAd_e z0).symm, ⟨lwK.of z0 rfl, lwK.of z1 rfl, lwK.of z2 rfl, lwK.of z3 rfl, lwK.of z4 rfl, trivial⟩⟩
set_option maxRecDepth 20000 in
theorem ok_tape_11 {G : td_G} {L : va_W} {a : Nat} (h : tapeAt G L 11 a) : a = lwAd L 11 ∧ lwKs (lwK G L) 11 5 := by
  obtain ⟨q1, q2, q3, q4, z0, z1, z2, z3, z4⟩ := h
  have y1 := lwAd_e z1
  subst y1
  have y2 := lwAd_e z2
  subst y2
  have y3 := lwAd_e z3
  subst y3
  have y4 := lwAd_e z4
  subst y4
  exact ⟨(lwAd_e z0).symm, ⟨lwK.of z0 rfl, lwK.of z1 rfl, lwK.of z2 rfl, lwK.of z3 rfl, lwK.of z4 rfl, trivial⟩⟩
set_option maxRecDepth 20000 in
theorem ok_drum_18 {G : td_G} {L : va_W} {a : Nat} (h : drumAt G L 18 a) : a = lwAd L 18 ∧ lwKs (lwK G L) 18 6 := by
  obtain ⟨q1, q2, q3, q4, q5, z0, z1, z2, z3, z4, z5⟩ := h
  have y1 := lwAd_e z1
  subst y1
  have y2 := lwAd_e z2
  subst y2
  have y3 := lwAd_e z3
  subst y3
  have y4 := lwAd_e z4
  subst y4
  have y5 := lwAd_e z5
  subst y5
  exact ⟨(lwAd_e z0).symm, ⟨lwK.of z0 rfl, lwK.of z1 rfl, lwK.of z2 rfl, lwK.of z3 rfl, lwK.of z4 rfl, lwK.of z5 rfl, trivial⟩⟩
set_option maxRecDepth 20000 in
theorem ok_drum_50 {G : td_G} {L : va_W} {a : Nat} (h : drumAt G L 50 a) : a = lwAd L 50 ∧ lwKs (lwK G L) 50 6 := by
  obtain ⟨q1, q2, q3, q4, q5, z0, z1, z2, z3, z4, z5⟩ := h
  have y1 := lwAd_e z1
  subst y1
  have y2 := lwAd_e z2
  subst y2
  have y3 := lwAd_e z3
  subst y3
  have y4 := lwAd_e z4
  subst y4
  have y5 := lwAd_e z5
  subst y5
  exact ⟨(lwAd_e z0).symm, ⟨lwK.of z0 rfl, lwK.of z1 rfl, lwK.of z2 rfl, lwK.of z3 rfl, lwK.of z4 rfl, lwK.of z5 rfl, trivial⟩⟩
set_option maxRecDepth 20000 in
theorem ok_fates_24 {G : td_G} {L : va_W} {a : Nat} (h : fatesAt G L 24 a) : a = lwAd L 24 ∧ lwKs (lwK G L) 24 5 := by
  obtain ⟨q1, q2, q3, q4, z0, z1, z2, z3, z4⟩ := h
  have y1 := lwAd_e z1
  subst y1
  have y2 := lwAd_e z2
  subst y2
  have y3 := lwAd_e z3
  subst y3
  have y4 := lwAd_e z4
  subst y4
  exact ⟨(lwAd_e z0).symm, ⟨lwK.of z0 rfl, lwK.of z1 rfl, lwK.of z2 rfl, lwK.of z3 rfl, lwK.of z4 rfl, trivial⟩⟩
set_option maxRecDepth 20000 in
theorem ok_fates_56 {G : td_G} {L : va_W} {a : Nat} (h : fatesAt G L 56 a) : a = lwAd L 56 ∧ lwKs (lwK G L) 56 5 := by
  obtain ⟨q1, q2, q3, q4, z0, z1, z2, z3, z4⟩ := h
  have y1 := lwAd_e z1
  subst y1
  have y2 := lwAd_e z2
  subst y2
  have y3 := lwAd_e z3
  subst y3
  have y4 := lwAd_e z4
  subst y4
  exact ⟨(lwAd_e z0).symm, ⟨lwK.of z0 rfl, lwK.of z1 rfl, lwK.of z2 rfl, lwK.of z3 rfl, lwK.of z4 rfl, trivial⟩⟩
set_option maxRecDepth 20000 in
theorem ok_log_37 {G : td_G} {L : va_W} {a : Nat} (h : logAt G L 37 a) : a = lwAd L 37 ∧ lwKs (lwK G L) 37 6 := by
  obtain ⟨q1, q2, q3, q4, q5, z0, z1, z2, z3, z4, z5⟩ := h
  have y1 := lwAd_e z1
  subst y1
  have y2 := lwAd_e z2
  subst y2
  have y3 := lwAd_e z3
  subst y3
  have y4 := lwAd_e z4
  subst y4
  have y5 := lwAd_e z5
  subst y5
  exact ⟨(lwAd_e z0).symm, ⟨lwK.of z0 rfl, lwK.of z1 rfl, lwK.of z2 rfl, lwK.of z3 rfl, lwK.of z4 rfl, lwK.of z5 rfl, trivial⟩⟩
set_option maxRecDepth 20000 in
theorem ok_order_69 {G : td_G} {L : va_W} {a : Nat} (h : orderAt G L 69 a) : a = lwAd L 69 ∧ lwKs (lwK G L) 69 4 := by
  obtain ⟨q1, q2, q3, z0, z1, z2, z3⟩ := h
  have y1 := lwAd_e z1
  subst y1
  have y2 := lwAd_e z2
  subst y2
  have y3 := lwAd_e z3
  subst y3
  exact ⟨(lwAd_e z0).symm, ⟨lwK.of z0 rfl, lwK.of z1 rfl, lwK.of z2 rfl, lwK.of z3 rfl, trivial⟩⟩
set_option maxRecDepth 20000 in
theorem ok_sheet_77 {G : td_G} {L : va_W} {a : Nat} (h : sheetAt G L 77 a) : a = lwAd L 77 ∧ lwKs (lwK G L) 77 2 := by
  obtain ⟨q1, z0, z1⟩ := h
  have y1 := lwAd_e z1
  subst y1
  exact ⟨(lwAd_e z0).symm, ⟨lwK.of z0 rfl, lwK.of z1 rfl, trivial⟩⟩
set_option maxRecDepth 20000 in
theorem ok_sheet_79 {G : td_G} {L : va_W} {a : Nat} (h : sheetAt G L 79 a) : a = lwAd L 79 ∧ lwKs (lwK G L) 79 2 := by
  obtain ⟨q1, z0, z1⟩ := h
  have y1 := lwAd_e z1
  subst y1
  exact ⟨(lwAd_e z0).symm, ⟨lwK.of z0 rfl, lwK.of z1 rfl, trivial⟩⟩
set_option maxRecDepth 20000 in
theorem ok_sheet_81 {G : td_G} {L : va_W} {a : Nat} (h : sheetAt G L 81 a) : a = lwAd L 81 ∧ lwKs (lwK G L) 81 2 := by
  obtain ⟨q1, z0, z1⟩ := h
  have y1 := lwAd_e z1
  subst y1
  exact ⟨(lwAd_e z0).symm, ⟨lwK.of z0 rfl, lwK.of z1 rfl, trivial⟩⟩
set_option maxRecDepth 20000 in
theorem ok_sheet_83 {G : td_G} {L : va_W} {a : Nat} (h : sheetAt G L 83 a) : a = lwAd L 83 ∧ lwKs (lwK G L) 83 2 := by
  obtain ⟨q1, z0, z1⟩ := h
  have y1 := lwAd_e z1
  subst y1
  exact ⟨(lwAd_e z0).symm, ⟨lwK.of z0 rfl, lwK.of z1 rfl, trivial⟩⟩
set_option maxRecDepth 20000 in
theorem ok_course_17 {G : td_G} {L : va_W} {a : Nat} (h : courseAt G L 17 a) : a = lwAd L 17 ∧ lwKs (lwK G L) 17 20 := by
  obtain ⟨q1, q7, q12, q13, q14, q15, z0, z1, z7, z12, z13, z14, z15⟩ := h
  obtain ⟨y1, k1⟩ := ok_drum_18 z1
  subst y1
  obtain ⟨y7, k7⟩ := ok_fates_24 z7
  subst y7
  have y12 := lwAd_e z12
  subst y12
  have y13 := lwAd_e z13
  subst y13
  have y14 := lwAd_e z14
  subst y14
  obtain ⟨y15, k15⟩ := ok_plan_32 z15
  subst y15
  exact ⟨(lwAd_e z0).symm, lwKs.app (a := 1) (b := 19) ⟨lwK.of z0 rfl, trivial⟩ (lwKs.app (a := 6) (b := 13) k1 (lwKs.app (a := 5) (b := 8) k7 (lwKs.app (a := 3) (b := 5) ⟨lwK.of z12 rfl, lwK.of z13 rfl, lwK.of z14 rfl, trivial⟩ (k15))))⟩
set_option maxRecDepth 20000 in
theorem ok_course_49 {G : td_G} {L : va_W} {a : Nat} (h : courseAt G L 49 a) : a = lwAd L 49 ∧ lwKs (lwK G L) 49 20 := by
  obtain ⟨q1, q7, q12, q13, q14, q15, z0, z1, z7, z12, z13, z14, z15⟩ := h
  obtain ⟨y1, k1⟩ := ok_drum_50 z1
  subst y1
  obtain ⟨y7, k7⟩ := ok_fates_56 z7
  subst y7
  have y12 := lwAd_e z12
  subst y12
  have y13 := lwAd_e z13
  subst y13
  have y14 := lwAd_e z14
  subst y14
  obtain ⟨y15, k15⟩ := ok_plan_64 z15
  subst y15
  exact ⟨(lwAd_e z0).symm, lwKs.app (a := 1) (b := 19) ⟨lwK.of z0 rfl, trivial⟩ (lwKs.app (a := 6) (b := 13) k1 (lwKs.app (a := 5) (b := 8) k7 (lwKs.app (a := 3) (b := 5) ⟨lwK.of z12 rfl, lwK.of z13 rfl, lwK.of z14 rfl, trivial⟩ (k15))))⟩
set_option maxRecDepth 20000 in
theorem ok_trials_43 {G : td_G} {L : va_W} {a : Nat} (h : trialsAt G L 43 a) : a = lwAd L 43 ∧ lwKs (lwK G L) 43 34 := by
  obtain ⟨q1, q6, q26, q30, q31, q32, q33, z0, z1, z6, z26, z30, z31, z32, z33⟩ := h
  obtain ⟨y1, k1⟩ := ok_plan_44 z1
  subst y1
  obtain ⟨y6, k6⟩ := ok_course_49 z6
  subst y6
  obtain ⟨y26, k26⟩ := ok_order_69 z26
  subst y26
  have y30 := lwAd_e z30
  subst y30
  have y31 := lwAd_e z31
  subst y31
  have y32 := lwAd_e z32
  subst y32
  have y33 := lwAd_e z33
  subst y33
  exact ⟨(lwAd_e z0).symm, lwKs.app (a := 1) (b := 33) ⟨lwK.of z0 rfl, trivial⟩ (lwKs.app (a := 5) (b := 28) k1 (lwKs.app (a := 20) (b := 8) k6 (lwKs.app (a := 4) (b := 4) k26 (⟨lwK.of z30 rfl, lwK.of z31 rfl, lwK.of z32 rfl, lwK.of z33 rfl, trivial⟩))))⟩
set_option maxRecDepth 20000 in
theorem ok_door_0 {G : td_G} {L : va_W} {a : Nat} (h : doorAt G L 0 a) : a = lwAd L 0 ∧ lwKs (lwK G L) 0 85 := by
  obtain ⟨q1, q6, q11, q16, q17, q37, q43, q77, q79, q81, q83, z0, z1, z6, z11, z16, z17, z37, z43, z77, z79, z81, z83⟩ := h
  obtain ⟨y1, k1⟩ := ok_plan_1 z1
  subst y1
  obtain ⟨y6, k6⟩ := ok_plan_6 z6
  subst y6
  obtain ⟨y11, k11⟩ := ok_tape_11 z11
  subst y11
  have y16 := lwAd_e z16
  subst y16
  obtain ⟨y17, k17⟩ := ok_course_17 z17
  subst y17
  obtain ⟨y37, k37⟩ := ok_log_37 z37
  subst y37
  obtain ⟨y43, k43⟩ := ok_trials_43 z43
  subst y43
  obtain ⟨y77, k77⟩ := ok_sheet_77 z77
  subst y77
  obtain ⟨y79, k79⟩ := ok_sheet_79 z79
  subst y79
  obtain ⟨y81, k81⟩ := ok_sheet_81 z81
  subst y81
  obtain ⟨y83, k83⟩ := ok_sheet_83 z83
  subst y83
  exact ⟨(lwAd_e z0).symm, lwKs.app (a := 1) (b := 84) ⟨lwK.of z0 rfl, trivial⟩ (lwKs.app (a := 5) (b := 79) k1 (lwKs.app (a := 5) (b := 74) k6 (lwKs.app (a := 5) (b := 69) k11 (lwKs.app (a := 1) (b := 68) ⟨⟨_, z16, fun D H x => x⟩, trivial⟩ (lwKs.app (a := 20) (b := 48) k17 (lwKs.app (a := 6) (b := 42) k37 (lwKs.app (a := 34) (b := 8) k43 (lwKs.app (a := 2) (b := 6) k77 (lwKs.app (a := 2) (b := 4) k79 (lwKs.app (a := 2) (b := 2) k81 (k83)))))))))))⟩
set_option maxRecDepth 20000 in
theorem ok_model_85 {G : td_G} {L : va_W} {a : Nat} (h : modelAt G L 85 a) : a = lwAd L 85 ∧ lwKs (lwK G L) 85 22 := by
  obtain ⟨q1, q2, q3, q4, q5, q6, q7, q8, q9, q10, q11, q12, q13, q14, q15, q16, q17, q18, q19, q20, q21, z0, z1, z2, z3, z4, z5, z6, z7, z8, z9, z10, z11, z12, z13, z14, z15, z16, z17, z18, z19, z20, z21⟩ := h
  have y1 := lwAd_e z1
  subst y1
  have y2 := lwAd_e z2
  subst y2
  have y3 := lwAd_e z3
  subst y3
  have y4 := lwAd_e z4
  subst y4
  have y5 := lwAd_e z5
  subst y5
  have y6 := lwAd_e z6
  subst y6
  have y7 := lwAd_e z7
  subst y7
  have y8 := lwAd_e z8
  subst y8
  have y9 := lwAd_e z9
  subst y9
  have y10 := lwAd_e z10
  subst y10
  have y11 := lwAd_e z11
  subst y11
  have y12 := lwAd_e z12
  subst y12
  have y13 := lwAd_e z13
  subst y13
  have y14 := lwAd_e z14
  subst y14
  have y15 := lwAd_e z15
  subst y15
  have y16 := lwAd_e z16
  subst y16
  have y17 := lwAd_e z17
  subst y17
  have y18 := lwAd_e z18
  subst y18
  have y19 := lwAd_e z19
  subst y19
  have y20 := lwAd_e z20
  subst y20
  have y21 := lwAd_e z21
  subst y21
  exact ⟨(lwAd_e z0).symm, ⟨lwK.of z0 rfl, lwK.of z1 rfl, lwK.of z2 rfl, lwK.of z3 rfl, lwK.of z4 rfl, lwK.of z5 rfl, lwK.of z6 rfl, lwK.of z7 rfl, lwK.of z8 rfl, lwK.of z9 rfl, lwK.of z10 rfl, lwK.of z11 rfl, lwK.of z12 rfl, lwK.of z13 rfl, lwK.of z14 rfl, lwK.of z15 rfl, lwK.of z16 rfl, lwK.of z17 rfl, lwK.of z18 rfl, lwK.of z19 rfl, lwK.of z20 rfl, lwK.of z21 rfl, trivial⟩⟩
theorem lw_ws {G : td_G} {L : va_W} (hk : lwKs (lwK G L) 0 107) {k : Nat} {q : Nat × va_E} (h : (td_ws (lwG G L) h0A)[k]? = some q) : k < 107 ∧ q = (lwAd L k, td_E (lwG G L) h0A k) ∧ lwK G L k := by
  have hl : k < 107 := by
    rcases Nat.lt_or_ge k 107 with z | z
    · exact z
    · unfold td_ws at h
      rw [List.getElem?_eq_none (by rw [List.length_map, List.length_range]; exact z)] at h
      cases h
  have e := td_ws_get (lwG G L) h0A hl
  rw [h] at e
  have e2 : td_ad (lwG G L) k = lwAd L k := if_pos hl
  rw [e2] at e
  exact ⟨hl, Option.some.inj e, hk.at k (Nat.zero_le _) (by omega)⟩
theorem lw_wsP {G : td_G} {L : va_W} (hk : lwKs (lwK G L) 0 107) {D : va_G} {H : Heap} (hP : va_P D vwCl L H) : va_P D vwCl (td_ws (lwG G L) h0A) H := by
  intro k q h
  obtain ⟨hl, rfl, e, z, g⟩ := lw_ws hk h
  exact g D H (hP k _ z)
theorem lw_wsD {G : td_G} {L : va_W} (hk : lwKs (lwK G L) 0 107) {A : Nat → Prop} (hD : va_D A L) : va_D A (td_ws (lwG G L) h0A) := by
  refine ⟨fun i j p q h1 h2 e => ?_, fun k q h => ?_⟩
  · obtain ⟨_, rfl, e1, z1, _⟩ := lw_ws hk h1
    obtain ⟨_, rfl, e2, z2, _⟩ := lw_ws hk h2
    exact hD.1 i j _ _ z1 z2 e
  · obtain ⟨_, rfl, e1, z1, _⟩ := lw_ws hk h
    exact (hD.2 k (lwAd L k, e1) z1 :)
theorem lwG_T {G : td_G} {L : va_W} {U : State} {H : Heap} (h : td_T G U H) : td_T (lwG G L) U H := by
  obtain ⟨h1, h2, h3, h4⟩ := h
  have e : ∀ k, 107 ≤ k → td_ad (lwG G L) k = td_ad G k := fun k hk => if_neg (by omega)
  refine ⟨fun i hi => ?_, h2, ?_, ?_⟩
  · rw [e _ (by omega)]; exact h1 i hi
  · rw [e 2000 (by decide), e 2001 (by decide)]; exact h3
  · rw [e 2000 (by decide)]; exact h4
theorem k_swap {G : td_G} {R : Room} {M : td_M} {Cx : k_Cx} {Qf : k_Qf} {pc : Nat} {lv : List (Nat × Value)} {st : List Value} {L : va_W} {cc sl : Nat} (hk : lwKs (lwK G L) 0 107) (k : k_J (lwG G L) R M Cx Qf pc lv st (td_ws (lwG G L) h0A) cc sl) : k_J G R M Cx Qf pc lv st L cc sl := by
  intro p e s m args below meth c H locs ls X hc hl
  obtain ⟨a1, a2, a3, a4, a5, a6, a7, a8, a9, a10, a11, a12, a13, a14⟩ := X
  exact k p e s m args below meth c H locs ls ⟨a1, a2, a3, a4, a5, a6, a7, a8, lwG_T a9, a10, a11, lw_wsP hk a12, lw_wsD hk a13, a14⟩ hc hl
def gA : nH := fun a b => if a = 0 then ([4,2,2,2,2,2,1,3,120] : List Nat).getD b 0 else if a = 5 then 12 else 0
def sA : gS := (gA, none, (0, fun _ => 0), fun _ b => shI (b + 1))
theorem gA_wf : wfC gA := ⟨⟨by decide, by decide⟩, ⟨by decide, by decide⟩, ⟨by decide, by decide⟩, by decide, ⟨by decide, by decide⟩, ⟨by decide, by decide⟩, by decide, ⟨by decide, by decide⟩, by decide, by decide, fun p hp => absurd hp (Nat.not_lt_zero p)⟩
theorem fstA_v : ∀ i, i < 9 → fstA i = nI (gA 0 i) := by decide +kernel
theorem sA_W : shW sA.2.2.2 := fun s _ => ⟨Or.inl rfl, 0, Nat.zero_le _, rfl⟩
theorem shI_0 (i : Nat) : shI (2 + i + 1) = 0 := if_neg (by omega)
theorem h0A_D : DI sA h0A := by
  refine ⟨⟨⟨gA_wf, fstA_v, rfl, fun p hp => absurd hp (Nat.not_lt_zero p)⟩, by decide, rfl, ⟨Nat.zero_le _, fun i hi => absurd hi (Nat.not_lt_zero i), rfl, fun i hi => absurd hi (Nat.not_lt_zero i)⟩, ?_, sA_W, Or.inl rfl, Or.inl rfl⟩, Or.inl rfl, ⟨0, Nat.zero_le _, rfl, fun m hm => absurd hm (Nat.not_lt_zero m)⟩, Or.inl rfl, Or.inl rfl, Or.inl rfl⟩
  intro s hs
  rcases (show s = 0 ∨ s = 1 ∨ s = 2 ∨ s = 3 by omega) with rfl | rfl | rfl | rfl <;> exact ⟨rfl, rfl, fun i _ => (shI_0 i).symm⟩
theorem h0A_M : MI sA h0A := by
  refine ⟨⟨by decide +kernel, by decide +kernel, fun p hp => absurd hp (Nat.not_lt_zero p)⟩, rfl, ⟨rfl, fun i hi => absurd hi (Nat.not_lt_zero i)⟩, ?_⟩
  intro s hs
  rcases (show s = 0 ∨ s = 1 ∨ s = 2 ∨ s = 3 by omega) with rfl | rfl | rfl | rfl <;> exact ⟨by decide +kernel, rfl, fun i _ => (shI_0 i).symm⟩
