/-! ===== BOTH SIDES OF A CALL ===== -/
theorem DI.fd {s : gS} {h h' : td_H} (x : DI s h) (f : FD h h') : DI s h' := by
  obtain ⟨xa, c1, c2, c3, c4, c5⟩ := x
  exact ⟨xa.fr (fun a b r => f a b (by unfold regA at r; omega)) (xa.2.2.2.2.2.2.1.fr (fun a b _ _ => f a b (by omega))) (xa.2.2.2.2.2.2.2.fr (fun a b _ _ => f a b (by omega))), c1F c1 (fun a b r => f a b (by omega)), c2F c2 (fun a b r => f a b (by omega)), c3F c3 (fun a b r => f a b (by omega)), c4F c4 (fun a b r => f a b (by omega)), c5F c5 (fun a b r => f a b (by omega))⟩
theorem MI.fm {s : gS} {h h' : td_H} (x : MI s h) (f : FM h h') : MI s h' := ⟨x.1.fr (fun b => f _ _ (by decide)), x.2.1.fr (f _ _ (by decide)) (fun b => f _ _ (by decide)), x.2.2.1.fr (f _ _ (by decide)) (fun b => f _ _ (by decide)), x.2.2.2.fr (fun a b z => f a b (by omega))⟩
def pairP (G : td_G) (MD MM : td_M) (as : List Value) (s : gS) (h : td_H) : Prop := ∃ (v : Int32) (s' : gS), td_C G 9 MD (.ref 0 :: as) h (dPost v s' h) ∧ ∀ h1, MI s h1 → td_C G 9 MM (.ref 85 :: as) h1 (mPost v s' h1)
section PR
variable {G : td_G} {s : gS} {h : td_H}
theorem p_set (x1 x2 : Int32) (I : DI s h) : pairP G mX9_set mX10_set [.int x1, .int x2] s h := by
  by_cases ok : okSet x1 x2
  · exact ⟨_, _, (D_set x1 x2 I).1 ok, fun h1 J => (M_set x1 x2 I.ok J).1 ok⟩
  · exact ⟨_, _, (D_set x1 x2 I).2 ok, fun h1 J => (M_set x1 x2 I.ok J).2 ok⟩
theorem p_share (x1 x2 x3 : Int32) (I : DI s h) : pairP G mX9_share mX10_share [.int x1, .int x2, .int x3] s h := by
  by_cases ok : okShare s.1 x1 x2 x3
  · exact ⟨_, _, (D_share x1 x2 x3 I).1 ok, fun h1 J => (M_share x1 x2 x3 I.ok J).1 ok⟩
  · exact ⟨_, _, (D_share x1 x2 x3 I).2 ok, fun h1 J => (M_share x1 x2 x3 I.ok J).2 ok⟩
theorem p_open (x1 x2 : Int32) (I : DI s h) : pairP G mX9_open mX10_open [.int x1, .int x2] s h := by
  by_cases ok : okOpen x1 x2
  · exact ⟨_, _, (D_open x1 x2 I).1 ok, fun h1 J => (M_open x1 x2 I.ok J).1 ok⟩
  · exact ⟨_, _, (D_open x1 x2 I).2 ok, fun h1 J => (M_open x1 x2 I.ok J).2 ok⟩
theorem p_person (x1 x2 x3 : Int32) (I : DI s h) : pairP G mX9_person mX10_person [.int x1, .int x2, .int x3] s h := by
  by_cases ok : okPers x1 x2 x3
  · by_cases hl : s.1 1 0 < 12
    · exact ⟨_, _, (D_person x1 x2 x3 I).1 ok hl, fun h1 J => (M_person x1 x2 x3 I.ok J).1 ok hl⟩
    · exact ⟨_, _, (D_person x1 x2 x3 I).2.1 ok hl, fun h1 J => (M_person x1 x2 x3 I.ok J).2.1 ok hl⟩
  · exact ⟨_, _, (D_person x1 x2 x3 I).2.2 ok, fun h1 J => (M_person x1 x2 x3 I.ok J).2.2 ok⟩
theorem p_told (x1 x2 : Int32) (I : DI s h) : pairP G mX9_told mX10_told [.int x1, .int x2] s h := by
  by_cases ok : isP s.1 x1
  · exact ⟨_, _, (D_told x1 x2 I).1 ok, fun h1 J => (M_told x1 x2 I.ok J).1 ok⟩
  · exact ⟨_, _, (D_told x1 x2 I).2 ok, fun h1 J => (M_told x1 x2 I.ok J).2 ok⟩
theorem p_delay (x1 x2 : Int32) (I : DI s h) : pairP G mX9_delay mX10_delay [.int x1, .int x2] s h := by
  by_cases ok : okDelay s.1 x1 x2
  · exact ⟨_, _, (D_delay x1 x2 I).1 ok, fun h1 J => (M_delay x1 x2 I.ok J).1 ok⟩
  · exact ⟨_, _, (D_delay x1 x2 I).2 ok, fun h1 J => (M_delay x1 x2 I.ok J).2 ok⟩
theorem p_clear (I : DI s h) : pairP G mX9_clear mX10_clear [] s h := ⟨_, _, D_clear I, fun h1 J => M_clear I.ok J⟩
theorem p_type (w : Int64) (x : Int32) (I : DI s h) : pairP G mX9_type mX10_type [.long w, .int x] s h := by
  by_cases ok : okType w x
  · by_cases hl : s.2.2.1.1 + ix x ≤ 80
    · exact ⟨_, _, (D_type w x I).1 ok hl, fun h1 J => (M_type w x I.ok J).1 ok hl⟩
    · exact ⟨_, _, (D_type w x I).2.1 ok hl, fun h1 J => (M_type w x I.ok J).2.1 ok hl⟩
  · exact ⟨_, _, (D_type w x I).2.2 ok, fun h1 J => (M_type w x I.ok J).2.2 ok⟩
theorem p_people (I : DI s h) : pairP G mX9_people mX10_people [] s h := by
  by_cases ok : (rdE s.2.2.1.1 s.2.2.1.2 8 0).1 = 0
  · by_cases hl : s.1 1 0 + (rdE s.2.2.1.1 s.2.2.1.2 8 0).2 ≤ 12
    · exact ⟨_, _, (D_people I).1 ok hl, fun h1 J => (M_people I.ok J).1 ok hl⟩
    · exact ⟨_, _, (D_people I).2.1 ok hl, fun h1 J => (M_people I.ok J).2.1 ok hl⟩
  · exact ⟨_, _, (D_people I).2.2 ok, fun h1 J => (M_people I.ok J).2.2 ok⟩
theorem p_fate (x1 x2 : Int32) (I : DI s h) : pairP G mX9_fate mX10_fate [.int x1, .int x2] s h := ⟨_, _, D_fate x1 x2 I, fun h1 J => M_fate x1 x2 I.ok J⟩
theorem p_at (x1 x2 : Int32) (I : DI s h) : pairP G mX9_at mX10_at [.int x1, .int x2] s h := ⟨_, _, D_at x1 x2 I, fun h1 J => M_at x1 x2 I.ok J⟩
theorem p_within (x1 x2 : Int32) (I : DI s h) : pairP G mX9_within mX10_within [.int x1, .int x2] s h := ⟨_, _, D_within x1 x2 I, fun h1 J => M_within x1 x2 I.ok J⟩
theorem p_all (x1 : Int32) (I : DI s h) : pairP G mX9_all mX10_all [.int x1] s h := ⟨_, _, D_all x1 I, fun h1 J => M_all x1 I.ok J⟩
theorem p_count (x1 : Int32) (I : DI s h) : pairP G mX9_count mX10_count [.int x1] s h := ⟨_, _, D_count x1 I, fun h1 J => M_count x1 I.ok J⟩
theorem p_shared (x1 x2 : Int32) (I : DI s h) : pairP G mX9_shared mX10_shared [.int x1, .int x2] s h := ⟨_, _, D_shared x1 x2 I, fun h1 J => M_shared x1 x2 I.ok J⟩
theorem p_motor (x1 : Int32) (I : DI s h) : pairP G mX9_motor mX10_motor [.int x1] s h := ⟨_, _, D_motor x1 I, fun h1 J => M_motor x1 I.ok J⟩
theorem p_warmest (x1 x2 : Int32) (I : DI s h) : pairP G mX9_warmest mX10_warmest [.int x1, .int x2] s h := ⟨_, _, D_warmest x1 x2 I, fun h1 J => M_warmest x1 x2 I.ok J⟩
theorem p_orders (x1 x2 : Int32) (I : DI s h) : pairP G mX9_orders mX10_orders [.int x1, .int x2] s h := by
  by_cases ok : okOr s.1 x1 x2
  · exact ⟨_, _, (D_orders x1 x2 I).1 ok, fun h1 J => (M_orders x1 x2 I.ok J).1 ok⟩
  · exact ⟨_, _, (D_orders x1 x2 I).2 ok, fun h1 J => (M_orders x1 x2 I.ok J).2 ok⟩
theorem p_times (x1 x2 x3 x4 x5 : Int32) (I : DI s h) : pairP G mX9_times mX10_times [.int x1, .int x2, .int x3, .int x4, .int x5] s h := by
  by_cases ok : okTi x1 x2 x4 x5
  · by_cases hl : rfS s.2.2.2 x1 x2 x3 (2 * x4) = 0
    · exact ⟨_, _, (D_times x1 x2 x3 x4 x5 I).1 ok hl, fun h1 J => (M_times x1 x2 x3 x4 x5 I.ok J).1 ok hl⟩
    · exact ⟨_, _, (D_times x1 x2 x3 x4 x5 I).2.1 ok hl, fun h1 J => (M_times x1 x2 x3 x4 x5 I.ok J).2.1 ok hl⟩
  · exact ⟨_, _, (D_times x1 x2 x3 x4 x5 I).2.2 ok, fun h1 J => (M_times x1 x2 x3 x4 x5 I.ok J).2.2 ok⟩
theorem p_without (x1 : Int32) (I : DI s h) : pairP G mX9_without mX10_without [.int x1] s h := ⟨_, _, D_without x1 I, fun h1 J => M_without x1 I.ok J⟩
theorem p_image (I : DI s h) : pairP G mX9_image mX10_image [] s h := ⟨_, _, D_image I, fun h1 J => M_image I.ok J⟩
theorem p_restore (I : DI s h) : pairP G mX9_restore mX10_restore [] s h := by
  cases e : s.2.1 with
  | none => exact ⟨_, _, (D_restore I).2 e, fun h1 J => (M_restore J).2 e⟩
  | some g2 =>
    have k : kpD (some g2) h := by have z := I.1.2.2.1; rw [e] at z; exact z
    exact ⟨_, _, (D_restore I).1 g2 e, fun h1 J => (M_restore J).1 g2 e k.2.1.1.n⟩
theorem p_sheet (x1 x2 x3 : Int32) (I : DI s h) : pairP G mX9_sheet mX10_sheet [.int x1, .int x2, .int x3] s h := by
  by_cases ok : okSh x1 x2 x3
  · by_cases hl : 0 ≤ x3
    · exact ⟨_, _, (D_sheet x1 x2 x3 I).1 ok hl, fun h1 J => (M_sheet x1 x2 x3 I.ok J).1 ok hl⟩
    · exact ⟨_, _, (D_sheet x1 x2 x3 I).2.1 ok hl, fun h1 J => (M_sheet x1 x2 x3 I.ok J).2.1 ok hl⟩
  · exact ⟨_, _, (D_sheet x1 x2 x3 I).2.2 ok, fun h1 J => (M_sheet x1 x2 x3 I.ok J).2.2 ok⟩
theorem p_drop (x1 : Int32) (I : DI s h) : pairP G mX9_drop mX10_drop [.int x1] s h := by
  by_cases ok : 0 ≤ x1 ∧ x1 < 4
  · by_cases hl : s.2.2.2 (ix x1) 0 = -1
    · exact ⟨_, _, (D_drop x1 I).2.1 ok hl, fun h1 J => (M_drop x1 I.ok J).2.1 ok hl⟩
    · exact ⟨_, _, (D_drop x1 I).1 ok hl, fun h1 J => (M_drop x1 I.ok J).1 ok hl⟩
  · exact ⟨_, _, (D_drop x1 I).2.2 ok, fun h1 J => (M_drop x1 I.ok J).2.2 ok⟩
theorem p_item (x1 x2 x3 x4 : Int32) (I : DI s h) : pairP G mX9_item mX10_item [.int x1, .int x2, .int x3, .int x4] s h := by
  by_cases ok : okIt x1 x2
  · by_cases hl : rfS s.2.2.2 x1 x2 x3 1 = 0
    · exact ⟨_, _, (D_item x1 x2 x3 x4 I).1 ok hl, fun h1 J => (M_item x1 x2 x3 x4 I.ok J).1 ok hl⟩
    · exact ⟨_, _, (D_item x1 x2 x3 x4 I).2.1 ok hl, fun h1 J => (M_item x1 x2 x3 x4 I.ok J).2.1 ok hl⟩
  · exact ⟨_, _, (D_item x1 x2 x3 x4 I).2.2 ok, fun h1 J => (M_item x1 x2 x3 x4 I.ok J).2.2 ok⟩
theorem p_film (x1 x2 x3 : Int32) (I : DI s h) : pairP G mX9_film mX10_film [.int x1, .int x2, .int x3] s h := by
  by_cases ok : okIt x1 x2
  · by_cases hl : rfS s.2.2.2 x1 x2 x3 (nI (s.1 1 0)) = 0
    · exact ⟨_, _, (D_film x1 x2 x3 I).1 ok hl, fun h1 J => (M_film x1 x2 x3 I.ok J).1 ok hl⟩
    · exact ⟨_, _, (D_film x1 x2 x3 I).2.1 ok hl, fun h1 J => (M_film x1 x2 x3 I.ok J).2.1 ok hl⟩
  · exact ⟨_, _, (D_film x1 x2 x3 I).2.2 ok, fun h1 J => (M_film x1 x2 x3 I.ok J).2.2 ok⟩
end PR
