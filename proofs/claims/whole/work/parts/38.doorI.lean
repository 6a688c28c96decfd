/-! Door: they step in, in the order of the queue -/
def keyQ (c : nH) (p : Nat) : Nat := (if c 3 p = 4 then 0 else 1000) + c 4 p
theorem ahead_K {c : nH} {p b : Nat} (hp : c 4 p < 120) (hb : c 4 b < 120) : ahead c p b = true ↔ keyQ c p < keyQ c b := by
  unfold ahead keyQ
  by_cases y1 : c 3 p = 4 <;> by_cases y2 : c 3 b = 4 <;> simp [y1, y2] <;> omega
theorem bef_K {c : nH} {p b : Nat} (hp : c 4 p < 120) (hb : c 4 b < 120) : bef c p b ↔ (keyQ c p < keyQ c b ∨ (keyQ c p = keyQ c b ∧ p < b)) := by
  unfold bef
  rw [ahead_K hp hb, ahead_K hb hp]
  omega
theorem fst_min {c σ : nH} {s : Nat} (hw : ∀ p, p < c 1 0 → c 4 p < 120) (hn : c 1 0 ≤ 12) : ∀ i, i ≤ c 1 0 → (fstW c σ s i = 12 → ∀ p, p < i → ¬ (σ 0 p = 1 ∧ c 2 p = s)) ∧ (fstW c σ s i ≠ 12 → ∀ p, p < i → σ 0 p = 1 → c 2 p = s → p = fstW c σ s i ∨ bef c (fstW c σ s i) p)
  | 0, _ => ⟨fun _ p hp => absurd hp (by omega), fun h => absurd rfl h⟩
  | i + 1, hi => by
    obtain ⟨ih1, ih2⟩ := fst_min hw hn i (by omega)
    have hl := fstW_lt c σ s i
    have e : fstW c σ s (i + 1) = if σ 0 i = 1 ∧ c 2 i = s ∧ (fstW c σ s i = 12 ∨ ahead c i (fstW c σ s i) = true) then i else fstW c σ s i := rfl
    rw [e]
    by_cases q : σ 0 i = 1 ∧ c 2 i = s ∧ (fstW c σ s i = 12 ∨ ahead c i (fstW c σ s i) = true)
    · rw [if_pos q]
      refine ⟨fun z => by omega, fun _ p hp h1 h2 => ?_⟩
      by_cases pe : p = i
      · exact Or.inl pe
      · right
        have hp2 : p < i := by omega
        rcases q.2.2 with z | z
        · exact absurd ⟨h1, h2⟩ (ih1 z p hp2)
        · have ne : fstW c σ s i ≠ 12 := by
            intro y
            exact absurd ⟨h1, h2⟩ (ih1 y p hp2)
          have hf : fstW c σ s i < c 1 0 := by omega
          rw [ahead_K (hw i (by omega)) (hw _ hf)] at z
          rw [bef_K (hw i (by omega)) (hw p (by omega))]
          rcases ih2 ne p hp2 h1 h2 with y | y
          · rw [← y] at z; exact Or.inl z
          · rw [bef_K (hw _ hf) (hw p (by omega))] at y
            omega
    · rw [if_neg q]
      refine ⟨fun z p hp h => ?_, fun ne p hp h1 h2 => ?_⟩
      · by_cases pe : p = i
        · subst pe; exact q ⟨h.1, h.2, Or.inl z⟩
        · exact ih1 z p (by omega) h
      · by_cases pe : p = i
        · subst pe
          right
          have hf : fstW c σ s p < c 1 0 := by omega
          have na : ¬ ahead c p (fstW c σ s p) = true := fun y => q ⟨h1, h2, Or.inr y⟩
          rw [ahead_K (hw p (by omega)) (hw _ hf)] at na
          rw [bef_K (hw _ hf) (hw p (by omega))]
          omega
        · exact ih2 ne p (by omega) h1 h2
theorem qOrd_onto {c : nH} {Q : Nat → Nat} (hQ : qOrd c Q) (hw : ∀ p, p < c 1 0 → c 4 p < 120) {p : Nat} (hp : p < c 1 0) : ∃ i, i < c 1 0 ∧ Q i = p :=
  fb_onto hQ.1 (fun i j h1 h2 e => by
    have b := hQ.2 i j h1 h2
    rw [e, bef_K (hw _ (hQ.1 j h2)) (hw _ (hQ.1 j h2))] at b
    omega) hp
/-- who is first in the queue of those who wait is first -/
theorem fst_queue {c σ : nH} {s i : Nat} {Q : Nat → Nat} (hQ : qOrd c Q) (hw : ∀ p, p < c 1 0 → c 4 p < 120) (hn : c 1 0 ≤ 12) (hi : i < c 1 0) (h1 : σ 0 (Q i) = 1) (h2 : c 2 (Q i) = s) (hj : ∀ j, j < i → ¬ (σ 0 (Q j) = 1 ∧ c 2 (Q j) = s)) : fstW c σ s (c 1 0) = Q i := by
  have hq := hQ.1 i hi
  obtain ⟨m1, m2⟩ := fst_min (σ := σ) (s := s) hw hn (c 1 0) (Nat.le_refl _)
  have ne : fstW c σ s (c 1 0) ≠ 12 := fun z => m1 z (Q i) hq ⟨h1, h2⟩
  have hl := fstW_lt c σ s (c 1 0)
  have hf : fstW c σ s (c 1 0) < c 1 0 := by omega
  have hst := fstW_st c σ s (c 1 0) ne hn
  obtain ⟨j, hjn, ej⟩ := qOrd_onto hQ hw hf
  rcases m2 ne (Q i) hq h1 h2 with z | z
  · exact z.symm
  · rw [bef_K (hw _ hf) (hw _ hq)] at z
    rcases Nat.lt_trichotomy j i with y | y | y
    · exact absurd (by rw [ej]; exact hst) (hj j y)
    · rw [← y, ej]
    · have b := hQ.2 i j y hjn
      rw [ej, bef_K (hw _ hq) (hw _ hf)] at b
      omega
theorem fst_none {c σ : nH} {s : Nat} (h : ∀ p, p < c 1 0 → ¬ (σ 0 p = 1 ∧ c 2 p = s)) : ∀ i, i ≤ c 1 0 → fstW c σ s i = 12
  | 0, _ => rfl
  | i + 1, hi => by
    have e : fstW c σ s (i + 1) = if σ 0 i = 1 ∧ c 2 i = s ∧ (fstW c σ s i = 12 ∨ ahead c i (fstW c σ s i) = true) then i else fstW c σ s i := rfl
    rw [e, if_neg (fun z => h i (by omega) ⟨z.1, z.2.1⟩)]
    exact fst_none h i (by omega)
theorem prt_may {c σ : nH} {p : Nat} (h : prt c σ p ≠ 12) : prt c σ p < c 0 0 ∧ mayP c σ p (prt c σ p) = true := by
  have hl := prt_lt c σ p
  refine ⟨by omega, ?_⟩
  unfold prt at h ⊢
  split at h
  · exact absurd rfl h
  · rename_i y
    rw [if_neg y]
    exact prtF_may c σ p (c 0 0) h
theorem sEnter_8 (c : nH) (t : Nat) (σ : nH) (p i : Nat) : sEnter c t σ p i 8 0 = σ 8 0 ∧ sEnter c t σ p i 8 1 = σ 8 1 ∧ (sEnter c t σ p i 8 2 = σ 8 2 ∨ sEnter c t σ p i 8 2 = c 0 7) := by
  rw [sEnter_eq]
  by_cases y : caughtB c σ p i = true
  · rw [if_pos y]
    simp [nu_app, sEn_8]
  · rw [if_neg y]
    simp [sEn_8]
theorem sEnter_r (c : nH) (t : Nat) (σ : nH) (p i a b : Nat) (ha : a = 0 ∨ a = 1 ∨ a = 6) : sEnter c t σ p i a b = sEn c t σ p i (c 1 0) a b := by
  rw [sEnter_eq]
  by_cases y : caughtB c σ p i = true
  · rw [if_pos y, nu_app, if_neg (by omega), nu_app, if_neg (by omega)]
  · rw [if_neg y]
theorem sOK.enter {c σ : nH} (ok : sOK c σ) (hwf : wfC c) (t : Nat) {p i : Nat} (hp : p < c 1 0) (h1 : σ 0 p = 1) (hi : i < c 0 0) (hu : used c σ i + szk (c 3 p) ≤ c 0 2) : sOK c (sEnter c t σ p i) := by
  obtain ⟨a, b, e, f, g⟩ := ok
  obtain ⟨s0, s1, s2⟩ := sEnter_8 c t σ p i
  refine ⟨by rw [s0]; exact a, by rw [s1]; exact b, by have := hwf.2.2.2.2.2.2.2.1; rcases s2 with z | z <;> rw [z] <;> omega, fun j hj => ?_, fun q hq => ?_⟩
  · have : used c (sEnter c t σ p i) j = used c (sEn c t σ p i (c 1 0)) j := by
      unfold used
      exact fb_sm_cong (fun v _ => by rw [inP_row c (sEn c t σ p i (c 1 0)) (sEnter c t σ p i) j v (sEnter_r _ _ _ _ _ _ _ (Or.inl rfl)) (sEnter_r _ _ _ _ _ _ _ (Or.inr (Or.inl rfl)))])
    rw [this, used_en c σ t i j (c 1 0) hp h1]
    by_cases y : i = j
    · rw [if_pos y, ← y]; exact hu
    · rw [if_neg y]; exact f j hj
  · rw [sEnter_r _ _ _ _ _ 0 _ (Or.inl rfl), sEnter_r _ _ _ _ _ 1 _ (Or.inr (Or.inl rfl)), sEnter_r _ _ _ _ _ 6 _ (Or.inr (Or.inr rfl))]
    obtain ⟨m0, m1, -, -, -, -, m6⟩ := sEn_p c t σ p i (c 1 0)
    by_cases y : q = p
    · subst y
      rw [m0, m1, m6]
      exact ⟨by decide, by decide, fun _ => hi⟩
    · rw [sEn_o _ _ _ _ _ _ _ _ (by decide) y, sEn_o _ _ _ _ _ _ _ _ (by decide) y, sEn_o _ _ _ _ _ _ _ _ (by decide) y]
      exact g q hq
set_option maxRecDepth 20000 in
set_option maxHeartbeats 4000000 in
theorem gX0_stepIn_0 {G : td_G} {d : Nat} {Post : td_P} {k0 : Nat} {x1 x2 : Int32} {h : td_H} (hk0 : td_kd k0 = 0) (K : vp_in x1 2 ∧ (td_J G (d + 2) mX0_stepIn Post 15 [(0, .ref k0), (1, .int x1), (2, .int x2), (3, .int ((h k0 10) &&& (h (k0 + 14) (ix x1)))), (4, .int 0)] [] h)) : td_J G (d + 2) mX0_stepIn Post 0 [(0, .ref k0), (1, .int x1), (2, .int x2)] [] h := by
  refine td_aload_n 0 dX0_stepIn_0 rfl ?_
  refine gf_X0_55 rfl hk0 dX0_stepIn_1 ?_
  refine td_aload_n 0 dX0_stepIn_4 rfl ?_
  refine gf_X0_32 rfl hk0 dX0_stepIn_5 ?_
  refine td_iload_n 1 dX0_stepIn_8 rfl ?_
  obtain ⟨e9, K⟩ := K
  refine td_ialdc (j := (ix x1)) (kd_0_4 hk0) (by decide) e9 rfl dX0_stepIn_9 ?_
  refine td_iand dX0_stepIn_10 ?_
  refine td_istore_n (lv2 := [(0, .ref k0), (1, .int x1), (2, .int x2), (3, .int ((h k0 10) &&& (h (k0 + 14) (ix x1))))]) dX0_stepIn_11 (by decide) rfl ?_
  refine td_iconst (v := 0) dX0_stepIn_12 (by decide) ?_
  refine td_istore (lv2 := [(0, .ref k0), (1, .int x1), (2, .int x2), (3, .int ((h k0 10) &&& (h (k0 + 14) (ix x1)))), (4, .int 0)]) dX0_stepIn_13 (by decide) rfl ?_
  exact K
set_option maxRecDepth 20000 in
set_option maxHeartbeats 4000000 in
theorem gX0_stepIn_15 {G : td_G} {d : Nat} {Post : td_P} {q : Nat} {Q : Nat → Nat} {c σ : nH} {k0 : Nat} {x1 x2 x3 x4 : Int32} {h : td_H} (hk0 : td_kd k0 = 0) (K : td_kd (ix (h k0 5)) = 5 ∧ (((h (ix (h k0 5)) 4) ≤ x4 → (Post none h)) ∧ (¬ (h (ix (h k0 5)) 4) ≤ x4 → ((x3 = 0 → (Post none h)) ∧ (¬ x3 = 0 → (vp_in x4 12 ∧ ((((jshr x3 (h (k0 + 12) (ix x4))) &&& 1) = 0 → td_J G (d + 2) mX0_stepIn Post 15 [(0, .ref k0), (1, .int x1), (2, .int x2), (3, .int x3), (4, .int (x4 + 1))] [] h) ∧ (¬ ((jshr x3 (h (k0 + 12) (ix x4))) &&& 1) = 0 → (dQ c Q (k0) q h ∧ dV c σ (k0) h ∧ sOK c σ ∧ vp_in (h (k0 + 12) (ix x4)) 12 ∧ ix (h (k0 + 12) (ix x4)) < c 1 0 ∧ x1 = nI (c 2 (ix (h (k0 + 12) (ix x4)))) ∧ ((0 ≤ (n1 (prt c σ (ix (h (k0 + 12) (ix x4))))) → (σ 0 (ix (h (k0 + 12) (ix x4))) = 1 ∧ vp_in (n1 (prt c σ (ix (h (k0 + 12) (ix x4))))) 4 ∧ used c σ (ix (n1 (prt c σ (ix (h (k0 + 12) (ix x4)))))) + szk (c 3 (ix (h (k0 + 12) (ix x4)))) ≤ c 0 2 ∧ vp_in x2 120 ∧ c 4 (ix (h (k0 + 12) (ix x4))) ≤ ix x2 ∧ (∀ h70 : td_H, (FrD (k0) h h70 ∧ dV c (sEnter c (ix x2) σ (ix (h (k0 + 12) (ix x4))) (ix (n1 (prt c σ (ix (h (k0 + 12) (ix x4))))))) (k0) h70) → (td_J G (d + 2) mX0_stepIn Post 15 [(0, .ref k0), (1, .int x1), (2, .int x2), (3, .int (x3 &&& ((jshl 1 (h (k0 + 12) (ix x4))) ^^^ (-1)))), (4, .int (x4 + 1))] [] h70)))) ∧ (¬ 0 ≤ (n1 (prt c σ (ix (h (k0 + 12) (ix x4))))) → (Post none h)))))))))))) : td_J G (d + 2) mX0_stepIn Post 15 [(0, .ref k0), (1, .int x1), (2, .int x2), (3, .int x3), (4, .int x4)] [] h := by
  refine td_iload 4 dX0_stepIn_15 rfl ?_
  refine td_aload_n 0 dX0_stepIn_17 rfl ?_
  refine gf_X0_38 rfl hk0 dX0_stepIn_18 ?_
  obtain ⟨e18, K⟩ := K
  refine gf_X0_88 rfl e18 dX0_stepIn_21 ?_
  obtain ⟨Kt, Kf⟩ := K
  refine td_icmp_ge (tgt := 88) dX0_stepIn_24 (by decide) (fun q24 => ?_) (fun q24 => ?_)
  · have K := Kt q24
    exact td_return rfl dX0_stepIn_88 K
  · have K := Kf q24
    refine td_iload_n 3 dX0_stepIn_27 rfl ?_
    obtain ⟨Kt, Kf⟩ := K
    refine td_if_eq (tgt := 88) dX0_stepIn_28 (by decide) (fun q28 => ?_) (fun q28 => ?_)
    · have K := Kt q28
      exact td_return rfl dX0_stepIn_88 K
    · have K := Kf q28
      refine td_aload_n 0 dX0_stepIn_31 rfl ?_
      refine gf_X0_25 rfl hk0 dX0_stepIn_32 ?_
      refine td_iload 4 dX0_stepIn_35 rfl ?_
      obtain ⟨e37, K⟩ := K
      refine td_ialdc (j := (ix x4)) (kd_0_2 hk0) (by decide) e37 rfl dX0_stepIn_37 ?_
      refine td_istore (lv2 := [(0, .ref k0), (1, .int x1), (2, .int x2), (3, .int x3), (4, .int x4), (5, .int (h (k0 + 12) (ix x4)))]) dX0_stepIn_38 (by decide) rfl ?_
      refine td_iload_n 3 dX0_stepIn_40 rfl ?_
      refine td_iload 5 dX0_stepIn_41 rfl ?_
      refine td_ishr dX0_stepIn_43 ?_
      refine td_iconst (v := 1) dX0_stepIn_44 (by decide) ?_
      refine td_iand dX0_stepIn_45 ?_
      obtain ⟨Kt, Kf⟩ := K
      refine td_if_eq (tgt := 82) dX0_stepIn_46 (by decide) (fun q46 => ?_) (fun q46 => ?_)
      · have K := Kt q46
        refine td_iinc 4 (v := x4 + 1) (lv2 := [(0, .ref k0), (1, .int x1), (2, .int x2), (3, .int x3), (4, .int (x4 + 1)), (5, .int (h (k0 + 12) (ix x4)))]) dX0_stepIn_82 rfl (congrArg (x4 + ·) (by decide)) (by decide) rfl ?_
        refine td_goto (tgt := 15) dX0_stepIn_85 (by decide) ?_
        refine td_drop (lv2 := [(0, .ref k0), (1, .int x1), (2, .int x2), (3, .int x3), (4, .int (x4 + 1))]) [0, 1, 2, 3, 4] rfl ?_
        exact K
      · have K := Kf q46
        refine td_aload_n 0 dX0_stepIn_49 rfl ?_
        refine td_iload 5 dX0_stepIn_50 rfl ?_
        refine td_iload_n 1 dX0_stepIn_52 rfl ?_
        obtain ⟨e53_0, K⟩ := K
        obtain ⟨e53_1, K⟩ := K
        obtain ⟨e53_2, K⟩ := K
        obtain ⟨e53_3, K⟩ := K
        obtain ⟨e53_4, K⟩ := K
        obtain ⟨e53_5, K⟩ := K
        refine cl_X0_162 rfl hk0 dX0_stepIn_53 (Nat.le_of_ble_eq_true rfl) (c_C_partFor (h (k0 + 12) (ix x4)) x1 e53_0 e53_1 e53_2 e53_3 e53_4 e53_5) (eR_k ?_)
        refine td_eqs (st2 := [.int (n1 (prt c σ (ix (h (k0 + 12) (ix x4)))))]) rfl ?_
        refine td_istore (lv2 := [(0, .ref k0), (1, .int x1), (2, .int x2), (3, .int x3), (4, .int x4), (5, .int (h (k0 + 12) (ix x4))), (6, .int (n1 (prt c σ (ix (h (k0 + 12) (ix x4))))))]) dX0_stepIn_56 (by decide) rfl ?_
        refine td_iload 6 dX0_stepIn_58 rfl ?_
        obtain ⟨Kt, Kf⟩ := K
        refine td_if_ge (tgt := 64) dX0_stepIn_60 (by decide) (fun q60 => ?_) (fun q60 => ?_)
        · have K := Kt q60
          refine td_aload_n 0 dX0_stepIn_64 rfl ?_
          refine td_iload 5 dX0_stepIn_65 rfl ?_
          refine td_iload 6 dX0_stepIn_67 rfl ?_
          refine td_iload_n 2 dX0_stepIn_69 rfl ?_
          obtain ⟨e70_5, K⟩ := K
          obtain ⟨e70_6, K⟩ := K
          obtain ⟨e70_7, K⟩ := K
          obtain ⟨e70_8, K⟩ := K
          obtain ⟨e70_9, K⟩ := K
          refine cl_X0_166 rfl hk0 dX0_stepIn_70 (Nat.le_of_ble_eq_true rfl) (c_C_enter (h (k0 + 12) (ix x4)) (n1 (prt c σ (ix (h (k0 + 12) (ix x4))))) x2 e53_0 e53_1 e53_2 e53_3 e53_4 e70_5 e70_6 e70_7 e70_8 e70_9) ?_
          rintro _ h70 ⟨rfl, f70⟩
          have K := K h70 f70
          refine td_eqs (st2 := []) rfl ?_
          refine td_iload_n 3 dX0_stepIn_73 rfl ?_
          refine td_iconst (v := 1) dX0_stepIn_74 (by decide) ?_
          refine td_iload 5 dX0_stepIn_75 rfl ?_
          refine td_ishl dX0_stepIn_77 ?_
          refine td_iconst (v := (-1)) dX0_stepIn_78 (by decide) ?_
          refine td_ixor dX0_stepIn_79 ?_
          refine td_iand dX0_stepIn_80 ?_
          refine td_istore_n (lv2 := [(0, .ref k0), (1, .int x1), (2, .int x2), (3, .int (x3 &&& ((jshl 1 (h (k0 + 12) (ix x4))) ^^^ (-1)))), (4, .int x4), (5, .int (h (k0 + 12) (ix x4))), (6, .int (n1 (prt c σ (ix (h (k0 + 12) (ix x4))))))]) dX0_stepIn_81 (by decide) rfl ?_
          refine td_iinc 4 (v := x4 + 1) (lv2 := [(0, .ref k0), (1, .int x1), (2, .int x2), (3, .int (x3 &&& ((jshl 1 (h (k0 + 12) (ix x4))) ^^^ (-1)))), (4, .int (x4 + 1)), (5, .int (h (k0 + 12) (ix x4))), (6, .int (n1 (prt c σ (ix (h (k0 + 12) (ix x4))))))]) dX0_stepIn_82 rfl (congrArg (x4 + ·) (by decide)) (by decide) rfl ?_
          refine td_goto (tgt := 15) dX0_stepIn_85 (by decide) ?_
          refine td_drop (lv2 := [(0, .ref k0), (1, .int x1), (2, .int x2), (3, .int (x3 &&& ((jshl 1 (h (k0 + 12) (ix x4))) ^^^ (-1)))), (4, .int (x4 + 1))]) [0, 1, 2, 3, 4] rfl ?_
          exact K
        · have K := Kf q60
          exact td_return rfl dX0_stepIn_63 K
theorem c_C_stepIn {G : td_G} {d : Nat} {h : td_H} {k q : Nat} {c σ : nH} {Q : Nat → Nat} (x1 x2 : Int32) (hQ : dQ c Q k q h) (hV : dV c σ k h) (ok : sOK c σ) (hW : WI c (ix x2) σ) (h1 : vp_in x1 2) (h2 : vp_in x2 120) : td_C G (d + 2) mX0_stepIn [.ref k, .int x1, .int x2] h (fun r h' => r = none ∧ FrD k h h' ∧ dV c (sIn c (ix x2) (ix x1) 12 σ) k h') := by
  obtain ⟨s, hs, rfl⟩ := vp_in_of h1 (by decide)
  obtain ⟨t, ht, rfl⟩ := vp_in_of h2 (by decide)
  have es : ix (nI s) = s := ixn (by omega)
  have et : ix (nI t) = t := ixn (by omega)
  rw [et] at hW
  rw [es, et]
  have hk := hQ.1
  have hwf := hQ.2.2.2.2.1.1
  have hn := hwf.n
  have hk107 := td_kd_lt hk (by decide)
  have hw : ∀ p, p < c 1 0 → c 4 p < 120 := fun p hp => (hwf.p hp).2.2
  have hOrd : qOrd c Q := hQ.2.2.2.2.2.2.2.2.2.2.2.2.1
  have loop : ∀ n' i m (τ : nH) (h' : td_H), i + n' = c 1 0 → (∀ j, j < i → ¬ (τ 0 (Q j) = 1 ∧ c 2 (Q j) = s)) → FrD k h h' → dV c τ k h' → sOK c τ → WI c t τ → nWt c τ ≤ m → sIn c t s m τ = sIn c t s 12 σ → td_J G (d + 2) mX0_stepIn (fun r h' => r = none ∧ FrD k h h' ∧ dV c (sIn c t s 12 σ) k h') 15 [(0, .ref k), (1, .int (nI s)), (2, .int (nI t)), (3, .int (ms (fun p => inSt c τ 1 p && sdM c s p))), (4, .int (nI i))] [] h' := by
    intro n'
    induction n' with
    | zero =>
      intro i m τ h' hi hj hF hV' ok' hW' hm he
      have hQ' := hF.Q hQ
      have e5 : ix (h' k 5) = q := by rw [hQ'.2.2.2.1]; exact ixn (by have := hQ'.2.2.1; omega)
      have e4 : h' (ix (h' k 5)) 4 = nI (c 1 0) := by rw [e5]; exact hQ'.2.2.2.2.1.2.2.1
      have nob : fstW c τ s (c 1 0) = 12 := fst_none (fun p hp => by
        obtain ⟨j, hjn, ej⟩ := qOrd_onto hOrd hw hp
        rw [← ej]
        exact hj j (by omega)) (c 1 0) (Nat.le_refl _)
      have e : sIn c t s m τ = τ := by
        cases m with
        | zero => rfl
        | succ m => rw [sIn_succ, if_pos nob]
      rw [e] at he
      refine gX0_stepIn_15 (c := c) (σ := τ) (Q := Q) (q := q) hk ⟨by rw [e5]; exact hQ'.2.1, fun _ => ⟨rfl, hF, by rw [← he]; exact hV'⟩, fun y => absurd (nle_of (by rw [e4] at y; exact y)) (by omega)⟩
    | succ n' ih =>
      intro i m τ h' hi hj hF hV' ok' hW' hm he
      have hQ' := hF.Q hQ
      have e5 : ix (h' k 5) = q := by rw [hQ'.2.2.2.1]; exact ixn (by have := hQ'.2.2.1; omega)
      have e4 : h' (ix (h' k 5)) 4 = nI (c 1 0) := by rw [e5]; exact hQ'.2.2.2.2.1.2.2.1
      have hin : i < c 1 0 := by omega
      have hq := hOrd.1 i hin
      have ei : ix (nI i) = i := ixn (by omega)
      have eQ : h' (k + 12) i = nI (Q i) := hQ'.2.2.2.2.2.2.2.2.2.2.2.2.2 i hin
      have eq : ix (nI (Q i)) = Q i := ixn (by omega)
      have hsd := (hwf.p hq).1
      have bit : (jshr (ms (fun p => inSt c τ 1 p && sdM c s p)) (nI (Q i)) &&& 1) = if (inSt c τ 1 (Q i) && sdM c s (Q i)) = true then 1 else 0 := ms_bit _ (by omega)
      have hwt : (inSt c τ 1 (Q i) && sdM c s (Q i)) = true ↔ (τ 0 (Q i) = 1 ∧ c 2 (Q i) = s) := by
        unfold inSt sdM
        simp [hq]
      refine gX0_stepIn_15 (c := c) (σ := τ) (Q := Q) (q := q) hk ⟨by rw [e5]; exact hQ'.2.1, fun y => absurd (le_of (by rw [e4] at y; exact y)) (by omega), fun _ => ⟨fun y => ?_, fun _ => ⟨vp_in_nI (by omega) (by decide), ?_⟩⟩⟩
      · have nob : fstW c τ s (c 1 0) = 12 := fst_none (fun p hp z => by
          have y2 := ms_0.mp y p (by omega)
          unfold inSt sdM at y2
          simp [hp, z.1, z.2] at y2) (c 1 0) (Nat.le_refl _)
        have e : sIn c t s m τ = τ := by
          cases m with
          | zero => rfl
          | succ m => rw [sIn_succ, if_pos nob]
        rw [e] at he
        exact ⟨rfl, hF, by rw [← he]; exact hV'⟩
      · rw [ei, eQ, eq, bit]
        by_cases y : τ 0 (Q i) = 1 ∧ c 2 (Q i) = s
        · rw [if_pos (hwt.mpr y)]
          refine ⟨fun z => absurd z (by decide), fun _ => ?_⟩
          have hfst := fst_queue hOrd hw hn hin y.1 y.2 hj
          have hm1 : 1 ≤ nWt c τ := by
            have := nWt_enter c t τ (Q i) 0 hq y.1
            omega
          obtain ⟨m', rfl⟩ : ∃ m', m = m' + 1 := ⟨m - 1, by omega⟩
          rw [sIn_succ, hfst, if_neg (by omega)] at he
          have hpl := prt_lt c τ (Q i)
          have hL := hwf.1
          have hp12 : prt c τ (Q i) = 12 ∨ prt c τ (Q i) < 12 := by omega
          refine ⟨hQ', hV', ok', vp_in_nI (by omega) (by decide), hq, by rw [y.2], fun z => ?_, fun z => ?_⟩
          · have zn : ¬ n1 (prt c τ (Q i)) < 0 := fun w => by rw [fa_lt, Int32.toInt_zero] at w; rw [fa_le, Int32.toInt_zero] at z; omega
            obtain ⟨e1, e2⟩ := n1_in zn hp12
            have ne : prt c τ (Q i) ≠ 12 := by omega
            rw [if_neg ne] at he
            have hmay := prt_may ne
            have hus : used c τ (prt c τ (Q i)) + szk (c 3 (Q i)) ≤ c 0 2 := by
              have hm2 := hmay.2
              unfold mayP at hm2
              simp at hm2
              have := szk_pos (c 3 (Q i))
              omega
            have ep : ix (nI (prt c τ (Q i))) = prt c τ (Q i) := ixn (by omega)
            rw [e1, ep, et]
            have hcm := hW' (Q i) hq (by rw [y.1]; decide)
            refine ⟨y.1, vp_in_nI (by omega) (by decide), hus, h2, hcm, fun h2' hh => ?_⟩
            have hw2 := nWt_enter c t τ (Q i) (prt c τ (Q i)) hq y.1
            refine td_to (ih (i + 1) m' (sEnter c t τ (Q i) (prt c τ (Q i))) h2' (by omega) (fun j hj2 w => ?_) (hF.tr hh.1) hh.2 (ok'.enter hwf t hq y.1 hmay.1 hus) (hW'.enter hcm) (by omega) he) ?_ rfl rfl
            · rw [sEnter_0] at w
              by_cases v : Q j = Q i
              · rw [if_pos v] at w; exact absurd w.1 (by decide)
              · rw [if_neg v] at w
                have : j ≠ i := fun u => v (by rw [u])
                exact hj j (by omega) w
            · rw [nI_1, ms_one (by omega), ms_andn]
              refine congrArg (fun z => [(0, Value.ref k), (1, Value.int (nI s)), (2, Value.int (nI t)), (3, Value.int z), (4, Value.int (nI (i + 1)))]) (ms_ext (fun p _ => ?_))
              unfold inSt
              rw [sEnter_0]
              by_cases v : p = Q i
              · simp [v]
              · simp [v]
          · have zn : n1 (prt c τ (Q i)) < 0 := by rw [fa_le, Int32.toInt_zero] at z; rw [fa_lt, Int32.toInt_zero]; omega
            have e := (n1_neg hp12).mp zn
            rw [if_pos e] at he
            exact ⟨rfl, hF, by rw [← he]; exact hV'⟩
        · rw [if_neg (fun z => y (hwt.mp z))]
          refine ⟨fun _ => ?_, fun z => absurd rfl z⟩
          refine td_to (ih (i + 1) m τ h' (by omega) (fun j hj2 => ?_) hF hV' ok' hW' hm he) (by rw [nI_1]) rfl rfl
          rcases Nat.lt_or_ge j i with v | v
          · exact hj j v
          · have : j = i := by omega
            subst this
            exact y
  refine td_entry rfl (Nat.le_of_ble_eq_true rfl) rfl (gX0_stepIn_0 hk ⟨h1, ?_⟩)
  refine td_to (loop (c 1 0) 0 12 σ h (by omega) (fun j hj => absurd hj (by omega)) (FrD.rf k h) hV ok hW (nWt_le c σ hn) rfl) ?_ rfl rfl
  rw [es, hV.1.1, hQ.2.2.2.2.2.2.2.2.2.2.1 s hs, ms_and]
  rfl
