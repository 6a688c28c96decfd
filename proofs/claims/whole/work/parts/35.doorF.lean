/-! Door: a step -/
theorem dV.sc {c σ τ : nH} {k : Nat} {h h' : td_H} (x : dV c σ k h) (e : ∀ a b, a ≠ 8 → τ a b = σ a b) (r : ∀ a b, ¬ ((a = k ∧ (b = 12 ∨ b = 13 ∨ b = 14)) ∨ (a = k + 1 ∧ (b = 7 ∨ b = 9 ∨ b = 11))) → h' a b = h a b) (s0 : h' (k + 1) 7 = nI (τ 8 0)) (s1 : h' k 12 = nI (τ 8 1)) (s2 : h' k 13 = nI (τ 8 2)) (s3 : h' (k + 1) 11 = nI (τ 8 3)) (s4 : h' (k + 1) 9 = nI (τ 8 4)) (s5 : h' k 14 = nI (τ 8 5)) : dV c τ k h' := by
  obtain ⟨⟨a1, a2, a3, a4, a5⟩, ⟨w, w1, w2⟩, ⟨d1, d2, d3, d4⟩, hP, hO, f1, f2, hF⟩ := x
  have iP : ∀ i, inP c τ i = inP c σ i := fun i => funext fun p => inP_row c σ τ i p (e 0 p (by decide)) (e 1 p (by decide))
  have iS : ∀ s, inSt c τ s = inSt c σ s := fun s => funext fun p => inSt_row c σ τ s p (e 0 p (by decide))
  have iu : ∀ i, used c τ i = used c σ i := fun i => by unfold used; rw [iP]
  have ip : pushS c τ = pushS c σ := by
    unfold pushS
    exact fb_sm_cong (fun p _ => by rw [e 0 p (by decide)])
  refine ⟨⟨?_, ?_, s1, s2, s5⟩, ⟨w, ?_, fun p hp => ?_⟩, ⟨s0, ?_, s4, s3⟩, fun i hi => ⟨?_, ?_⟩, fun p hp h2 => ?_, ?_, ?_, fun p hp => ⟨?_, ?_, ?_, ?_⟩⟩
  · rw [r _ _ (by omega), iS]; exact a1
  · rw [r _ _ (by omega), ip]; exact a2
  · rw [r _ _ (by omega)]; exact w1
  · rw [e 0 p (by decide), e 6 p (by decide)]; exact w2 p hp
  · rw [r _ _ (by omega), iS]; exact d2
  · rw [r _ _ (by omega), iP]; exact (hP i hi).1
  · rw [r _ _ (by omega), iu]; exact (hP i hi).2
  · rw [e 0 p (by decide)] at h2
    rw [r _ _ (by omega), e 1 p (by decide)]
    exact hO p hp h2
  · rw [r _ _ (by omega), iS]; exact f1
  · rw [r _ _ (by omega), f2]
    exact ms_ext (fun p _ => by rw [e 5 p (by decide)])
  · rw [r _ _ (by omega), e 2 p (by decide)]; exact (hF p hp).1
  · rw [r _ _ (by omega), (hF p hp).2.1]
    unfold qE
    rw [e 0 p (by decide), e 4 p (by decide)]
  · rw [r _ _ (by omega), e 3 p (by decide)]; exact (hF p hp).2.2.1
  · rw [r _ _ (by omega), (hF p hp).2.2.2]
    exact ms_ext (fun j _ => by rw [e (20 + p) j (by omega)])
theorem sOB_8 (c : nH) (t : Nat) (σ : nH) (s b : Nat) : sOB c t σ s 8 b = σ 8 b := by
  unfold sOB
  split
  · rw [if_neg (by omega), if_neg (by omega), if_neg (by omega)]
  · rfl
theorem sOB_n (c : nH) (t : Nat) (σ : nH) (s a b : Nat) (h : c 2 b ≠ 1 - s) : sOB c t σ s a b = σ a b := by
  unfold sOB
  rw [if_neg (fun z => h z.2)]
theorem sOB_1 (c : nH) (t : Nat) (σ : nH) (s b : Nat) : sOB c t σ s 1 b = σ 1 b := by
  unfold sOB
  split
  · rw [if_neg (by omega), if_neg (by omega), if_neg (by omega)]
  · rfl
theorem goesO_row (c σ τ : nH) (p : Nat) (h0 : τ 0 p = σ 0 p) (h1 : τ 1 p = σ 1 p) (h6 : τ 6 p = σ 6 p) (h8 : τ 8 0 = σ 8 0) : goesO c τ p = goesO c σ p := by
  unfold goesO atM
  rw [h0, h1, h6, h8]
theorem dazN_row (c σ τ : nH) (p : Nat) (h1 : τ 1 p = σ 1 p) (h6 : τ 6 p = σ 6 p) (h8 : τ 8 0 = σ 8 0) : dazN c τ p = dazN c σ p := by
  unfold dazN
  rw [h1, h6, h8]
/-- one mouth behind the other: all step out -/
theorem sOB_both (c : nH) (t : Nat) (σ : nH) (hs : ∀ p, p < c 1 0 → c 2 p < 2) : sOB c t (sOB c t σ 0) 1 = sOut c t σ (c 1 0) := by
  funext a b
  by_cases hb : b < c 1 0
  · rcases (by have := hs b hb; omega : c 2 b = 0 ∨ c 2 b = 1) with z | z
    · have e : ∀ a, sOB c t σ 0 a b = σ a b := fun a => sOB_n c t σ 0 a b (by omega)
      have eg := goesO_row c σ (sOB c t σ 0) b (e 0) (e 1) (e 6) (sOB_8 c t σ 0 0)
      have ed := dazN_row c σ (sOB c t σ 0) b (e 1) (e 6) (sOB_8 c t σ 0 0)
      have l1 : sOB c t (sOB c t σ 0) 1 a b = if a = 0 ∧ goesO c σ b = true then 3 else if a = 3 ∧ goesO c σ b = true then t else if a = 6 ∧ σ 0 b = 2 then dazN c σ b else σ a b := by
        unfold sOB
        rw [if_pos ⟨hb, by omega⟩]
        show (if a = 0 ∧ goesO c (sOB c t σ 0) b = true then 3 else if a = 3 ∧ goesO c (sOB c t σ 0) b = true then t else if a = 6 ∧ sOB c t σ 0 0 b = 2 then dazN c (sOB c t σ 0) b else sOB c t σ 0 a b) = _
        rw [eg, ed, e 0, e a]
      rw [l1]
      unfold sOut
      simp only [hb, true_and]
    · rw [sOB_n c t (sOB c t σ 0) 1 a b (by omega)]
      unfold sOB sOut
      rw [if_pos ⟨hb, by omega⟩]
      simp only [hb, true_and]
  · unfold sOB sOut
    rw [if_neg (fun z => hb z.1), if_neg (fun z => hb z.1), if_neg (fun z => hb z.1), if_neg (fun z => hb z.1), if_neg (fun z => hb z.1)]
theorem sOut_none (c : nH) (t : Nat) (σ : nH) (h : ∀ p, p < c 1 0 → σ 0 p ≠ 2) : sOut c t σ (c 1 0) = σ := by
  funext a b
  unfold sOut
  by_cases hb : b < c 1 0
  · have g : ¬ goesO c σ b = true := fun z => h b hb (goesO_2 z)
    rw [if_neg (fun z => g z.2.2), if_neg (fun z => g z.2.2), if_neg (fun z => h b hb z.2.2)]
  · rw [if_neg (fun z => hb z.1), if_neg (fun z => hb z.1), if_neg (fun z => hb z.1)]
theorem used_sOB (c σ : nH) (t s i : Nat) : used c (sOB c t σ s) i ≤ used c σ i := by
  unfold used
  refine fb_sm_le (fun q hq => ?_)
  show (if inP c (sOB c t σ s) i q = true then szk (c 3 q) else 0) ≤ (if inP c σ i q = true then szk (c 3 q) else 0)
  by_cases y : inP c (sOB c t σ s) i q = true
  · have z : inP c σ i q = true := by
      unfold inP at y ⊢
      rw [sOB_1] at y
      by_cases w : sOB c t σ s 0 q = σ 0 q
      · rw [w] at y; exact y
      · have : sOB c t σ s 0 q = 3 := by
          unfold sOB at w ⊢
          split
          · rename_i u
            rw [if_pos u] at w
            by_cases g : goesO c σ q = true
            · simp [g]
            · simp [g] at w
          · rename_i u
            rw [if_neg u] at w
            exact absurd rfl w
        simp [this] at y
    rw [if_pos y, if_pos z]
    exact Nat.le_refl _
  · rw [if_neg y]
    exact Nat.zero_le _
theorem sOK.ob {c σ : nH} (ok : sOK c σ) (t s : Nat) : sOK c (sOB c t σ s) := by
  obtain ⟨a, b, e, f, g⟩ := ok
  refine ⟨by rw [sOB_8]; exact a, by rw [sOB_8]; exact b, by rw [sOB_8]; exact e, fun i hi => Nat.le_trans (used_sOB c σ t s i) (f i hi), fun p hp => ?_⟩
  obtain ⟨g1, g2, g3⟩ := g p hp
  rw [sOB_1]
  by_cases w : c 2 p = 1 - s
  · have e0 : sOB c t σ s 0 p = if goesO c σ p = true then 3 else σ 0 p := by unfold sOB; rw [if_pos ⟨hp, w⟩]; simp
    have e6 : sOB c t σ s 6 p = if σ 0 p = 2 then dazN c σ p else σ 6 p := by unfold sOB; rw [if_pos ⟨hp, w⟩]; simp
    rw [e0, e6]
    refine ⟨by split; decide; exact g1, by split; exact dazN_lt g2; exact g2, fun z => ?_⟩
    split at z
    · cases z
    · exact g3 z
  · rw [sOB_n _ _ _ _ _ _ w, sOB_n _ _ _ _ _ _ w]
    exact ⟨g1, g2, g3⟩
theorem loss_4 (c σ : nH) (was : Nat) (hL : c 0 0 ≤ 4) : fb_sm (fun i => if (opM (c 0 0) (c 0 1) 0 was i && !(opM (c 0 0) (c 0 1) 0 (σ 8 0) i)) = true then c 0 6 * (c 0 2 - used c σ i) else 0) 4 = lossS c σ was (c 0 0) := by
  have e1 : fb_sm (fun i => if (opM (c 0 0) (c 0 1) 0 was i && !(opM (c 0 0) (c 0 1) 0 (σ 8 0) i)) = true then c 0 6 * (c 0 2 - used c σ i) else 0) (c 0 0) = lossS c σ was (c 0 0) := by
    unfold lossS
    exact fb_sm_cong (fun i hi => by rw [opM_opn c hi, opM_opn c hi])
  have z : ∀ n, fb_sm (fun i => if (opM (c 0 0) (c 0 1) 0 was i && !(opM (c 0 0) (c 0 1) 0 (σ 8 0) i)) = true then c 0 6 * (c 0 2 - used c σ i) else 0) (c 0 0 + n) = lossS c σ was (c 0 0) := by
    intro n
    induction n with
    | zero => exact e1
    | succ n ih =>
      rw [← Nat.add_assoc, fb_sm_succ, ih]
      have : opM (c 0 0) (c 0 1) 0 was (c 0 0 + n) = false := by
        unfold opM
        rw [decide_eq_false (by omega : ¬ c 0 0 + n < c 0 0)]
        rfl
      rw [this]
      simp
  have y := z (4 - c 0 0)
  rw [show c 0 0 + (4 - c 0 0) = 4 by omega] at y
  exact y
set_option maxRecDepth 20000 in
set_option maxHeartbeats 4000000 in
theorem gX0_step_0 {G : td_G} {d : Nat} {Post : td_P} {cold lost old q : Nat} {m : Nat → Bool} {Q f : Nat → Nat} {c σ σ22 σ50 σ68 : nH} {k0 : Nat} {x1 : Int32} {h : td_H} (hk0 : td_kd k0 = 0) (K : dLay (c 0 0) (c 0 1) ((k0 + 1)) h ∧ vp_in 0 2 ∧ (h ((k0 + 1)) 7 = nI (σ 8 0) ∧ σ 8 0 < 12) ∧ (vp_in 1 2 ∧ (h ((k0 + 1)) 9 = nI (σ 8 4) ∧ ((((hu (hu h ((k0 + 1)) 7 (nI ((σ 8 0 + 1) % 12))) ((k0 + 1)) 9 (nI (σ 8 4 + 1))) (k0 + 1) 8) = 0 → (dLay (c 0 0) (c 0 1) ((k0 + 1)) (hu (hu h ((k0 + 1)) 7 (nI ((σ 8 0 + 1) % 12))) ((k0 + 1)) 9 (nI (σ 8 4 + 1))) ∧ ((hu (hu h ((k0 + 1)) 7 (nI ((σ 8 0 + 1) % 12))) ((k0 + 1)) 9 (nI (σ 8 4 + 1))) ((k0 + 1)) 7 = nI (σ22 8 0) ∧ σ22 8 0 < 12) ∧ (((ms (opM (c 0 0) (c 0 1) (ix 0) (σ 8 0))) &&& ((ms (opM (c 0 0) (c 0 1) (ix 0) (σ22 8 0))) ^^^ (-1))) = ms m ∧ (∀ i, m i = true → i < 4) ∧ (∀ i, i < 4 → (hu (hu h ((k0 + 1)) 7 (nI ((σ 8 0 + 1) % 12))) ((k0 + 1)) 9 (nI (σ 8 4 + 1))) ((k0 + 1) + 4) i = nI (f i) ∧ f i < 2 ^ 20) ∧ (hu (hu h ((k0 + 1)) 7 (nI ((σ 8 0 + 1) % 12))) ((k0 + 1)) 9 (nI (σ 8 4 + 1))) ((k0 + 1)) 10 = nI cold ∧ (hu (hu h ((k0 + 1)) 7 (nI ((σ 8 0 + 1) % 12))) ((k0 + 1)) 9 (nI (σ 8 4 + 1))) ((k0 + 1)) 11 = nI lost ∧ (Post none (hu (hu (hu h ((k0 + 1)) 7 (nI ((σ 8 0 + 1) % 12))) ((k0 + 1)) 9 (nI (σ 8 4 + 1))) ((k0 + 1)) 11 (nI (lost + fb_sm (fun i => if m i then cold * f i else 0) 4))))))) ∧ (¬ ((hu (hu h ((k0 + 1)) 7 (nI ((σ 8 0 + 1) % 12))) ((k0 + 1)) 9 (nI (σ 8 4 + 1))) (k0 + 1) 8) = 0 → (dLay (c 0 0) (c 0 1) ((k0 + 1)) (hu (hu h ((k0 + 1)) 7 (nI ((σ 8 0 + 1) % 12))) ((k0 + 1)) 9 (nI (σ 8 4 + 1))) ∧ ((hu (hu h ((k0 + 1)) 7 (nI ((σ 8 0 + 1) % 12))) ((k0 + 1)) 9 (nI (σ 8 4 + 1))) ((k0 + 1)) 7 = nI (σ22 8 0) ∧ σ22 8 0 < 12) ∧ (dQ c Q (k0) q (hu (hu h ((k0 + 1)) 7 (nI ((σ 8 0 + 1) % 12))) ((k0 + 1)) 9 (nI (σ 8 4 + 1))) ∧ dV c σ22 (k0) (hu (hu h ((k0 + 1)) 7 (nI ((σ 8 0 + 1) % 12))) ((k0 + 1)) 9 (nI (σ 8 4 + 1))) ∧ sOK c σ22 ∧ sOI c σ22 old (ix 0) ∧ ((ms (opM (c 0 0) (c 0 1) (ix 0) (σ22 8 0))) &&& ((ms (opM (c 0 0) (c 0 1) (ix 0) (σ 8 0))) ^^^ (-1))) = ms (fun i => opM (c 0 0) (c 0 1) (ix 0) (σ22 8 0) i && !(opM (c 0 0) (c 0 1) (ix 0) old i)) ∧ vp_in x1 120 ∧ (∀ h50 : td_H, (FrD (k0) (hu (hu h ((k0 + 1)) 7 (nI ((σ 8 0 + 1) % 12))) ((k0 + 1)) 9 (nI (σ 8 4 + 1))) h50 ∧ dV c (sOB c (ix x1) σ22 (ix 0)) (k0) h50) → (dLay (c 0 0) (c 0 1) ((k0 + 1)) h50 ∧ (h50 ((k0 + 1)) 7 = nI (σ50 8 0) ∧ σ50 8 0 < 12) ∧ (dQ c Q (k0) q h50 ∧ dV c σ50 (k0) h50 ∧ sOK c σ50 ∧ sOI c σ50 old (ix 1) ∧ ((ms (opM (c 0 0) (c 0 1) (ix 1) (σ50 8 0))) &&& ((ms (opM (c 0 0) (c 0 1) (ix 1) (σ 8 0))) ^^^ (-1))) = ms (fun i => opM (c 0 0) (c 0 1) (ix 1) (σ50 8 0) i && !(opM (c 0 0) (c 0 1) (ix 1) old i)) ∧ (∀ h68 : td_H, (FrD (k0) h50 h68 ∧ dV c (sOB c (ix x1) σ50 (ix 1)) (k0) h68) → (dLay (c 0 0) (c 0 1) ((k0 + 1)) h68 ∧ (h68 ((k0 + 1)) 7 = nI (σ68 8 0) ∧ σ68 8 0 < 12) ∧ (((ms (opM (c 0 0) (c 0 1) (ix 0) (σ 8 0))) &&& ((ms (opM (c 0 0) (c 0 1) (ix 0) (σ68 8 0))) ^^^ (-1))) = ms m ∧ (∀ i, m i = true → i < 4) ∧ (∀ i, i < 4 → h68 ((k0 + 1) + 4) i = nI (f i) ∧ f i < 2 ^ 20) ∧ h68 ((k0 + 1)) 10 = nI cold ∧ h68 ((k0 + 1)) 11 = nI lost ∧ (Post none (hu h68 ((k0 + 1)) 11 (nI (lost + fb_sm (fun i => if m i then cold * f i else 0) 4))))))))))))))))) : td_J G (d + 3) mX0_step Post 0 [(0, .ref k0), (1, .int x1)] [] h := by
  refine td_aload_n 0 dX0_step_0 rfl ?_
  refine gf_X0_12 rfl hk0 dX0_step_1 ?_
  refine td_iconst (v := 0) dX0_step_4 (by decide) ?_
  obtain ⟨e5_0, K⟩ := K
  obtain ⟨e5_1, K⟩ := K
  obtain ⟨e5_2, K⟩ := K
  refine cl_X0_130 rfl (kd_0_0 hk0) dX0_step_5 (Nat.le_of_ble_eq_true rfl) (c_openSet (kd_0_0 hk0) (c 0 0) (c 0 1) (σ 8 0) 0 e5_0 e5_1 e5_2) (eR_k ?_)
  refine td_eqs (st2 := [.int (ms (opM (c 0 0) (c 0 1) (ix 0) (σ 8 0)))]) rfl ?_
  refine td_istore_n (lv2 := [(0, .ref k0), (1, .int x1), (2, .int (ms (opM (c 0 0) (c 0 1) (ix 0) (σ 8 0))))]) dX0_step_8 (by decide) rfl ?_
  refine td_aload_n 0 dX0_step_9 rfl ?_
  refine gf_X0_12 rfl hk0 dX0_step_10 ?_
  refine td_iconst (v := 1) dX0_step_13 (by decide) ?_
  obtain ⟨e14_1, K⟩ := K
  refine cl_X0_130 rfl (kd_0_0 hk0) dX0_step_14 (Nat.le_of_ble_eq_true rfl) (c_openSet (kd_0_0 hk0) (c 0 0) (c 0 1) (σ 8 0) 1 e5_0 e14_1 e5_2) (eR_k ?_)
  refine td_eqs (st2 := [.int (ms (opM (c 0 0) (c 0 1) (ix 1) (σ 8 0)))]) rfl ?_
  refine td_istore_n (lv2 := [(0, .ref k0), (1, .int x1), (2, .int (ms (opM (c 0 0) (c 0 1) (ix 0) (σ 8 0)))), (3, .int (ms (opM (c 0 0) (c 0 1) (ix 1) (σ 8 0))))]) dX0_step_17 (by decide) rfl ?_
  refine td_aload_n 0 dX0_step_18 rfl ?_
  refine gf_X0_12 rfl hk0 dX0_step_19 ?_
  obtain ⟨e22_1, K⟩ := K
  refine cl_X0_134 rfl (kd_0_0 hk0) dX0_step_22 (Nat.le_of_ble_eq_true rfl) (c_stepOn (kd_0_0 hk0) (σ 8 0) (σ 8 4) e5_2 e22_1) (eV_k ?_)
  refine td_eqs (st2 := []) rfl ?_
  refine td_aload_n 0 dX0_step_25 rfl ?_
  refine gf_X0_12 rfl hk0 dX0_step_26 ?_
  refine gf_X0_127 rfl (kd_0_0 hk0) dX0_step_29 ?_
  obtain ⟨Kt, Kf⟩ := K
  refine td_if_eq (tgt := 71) dX0_step_32 (by decide) (fun q32 => ?_) (fun q32 => ?_)
  · have K := Kt q32
    refine td_aload_n 0 dX0_step_71 rfl ?_
    refine gf_X0_12 rfl hk0 dX0_step_72 ?_
    refine td_iload_n 2 dX0_step_75 rfl ?_
    refine td_aload_n 0 dX0_step_76 rfl ?_
    refine gf_X0_12 rfl hk0 dX0_step_77 ?_
    refine td_iconst (v := 0) dX0_step_80 (by decide) ?_
    obtain ⟨e81_0, K⟩ := K
    obtain ⟨e81_2, K⟩ := K
    refine cl_X0_130 rfl (kd_0_0 hk0) dX0_step_81 (Nat.le_of_ble_eq_true rfl) (c_openSet (kd_0_0 hk0) (c 0 0) (c 0 1) (σ22 8 0) 0 e81_0 e5_1 e81_2) (eR_k ?_)
    refine td_eqs (st2 := [.int (ms (opM (c 0 0) (c 0 1) (ix 0) (σ22 8 0))), .int (ms (opM (c 0 0) (c 0 1) (ix 0) (σ 8 0))), .ref (k0 + 1)]) rfl ?_
    refine td_iconst (v := (-1)) dX0_step_84 (by decide) ?_
    refine td_ixor dX0_step_85 ?_
    refine td_iand dX0_step_86 ?_
    obtain ⟨e87_0, K⟩ := K
    obtain ⟨e87_1, K⟩ := K
    obtain ⟨e87_2, K⟩ := K
    obtain ⟨e87_3, K⟩ := K
    obtain ⟨e87_4, K⟩ := K
    refine cl_X0_141 rfl (kd_0_0 hk0) dX0_step_87 (Nat.le_of_ble_eq_true rfl) (c_lose (kd_0_0 hk0) m ((ms (opM (c 0 0) (c 0 1) (ix 0) (σ 8 0))) &&& ((ms (opM (c 0 0) (c 0 1) (ix 0) (σ22 8 0))) ^^^ (-1))) f cold lost e87_0 e87_1 e87_2 e87_3 e87_4) (eV_k ?_)
    refine td_eqs (st2 := []) rfl ?_
    exact td_return rfl dX0_step_90 K
  · have K := Kf q32
    refine td_aload_n 0 dX0_step_35 rfl ?_
    refine td_iconst (v := 0) dX0_step_36 (by decide) ?_
    refine td_aload_n 0 dX0_step_37 rfl ?_
    refine gf_X0_12 rfl hk0 dX0_step_38 ?_
    refine td_iconst (v := 0) dX0_step_41 (by decide) ?_
    obtain ⟨e42_0, K⟩ := K
    obtain ⟨e42_2, K⟩ := K
    refine cl_X0_130 rfl (kd_0_0 hk0) dX0_step_42 (Nat.le_of_ble_eq_true rfl) (c_openSet (kd_0_0 hk0) (c 0 0) (c 0 1) (σ22 8 0) 0 e42_0 e5_1 e42_2) (eR_k ?_)
    refine td_eqs (st2 := [.int (ms (opM (c 0 0) (c 0 1) (ix 0) (σ22 8 0))), .int 0, .ref k0]) rfl ?_
    refine td_iload_n 2 dX0_step_45 rfl ?_
    refine td_iconst (v := (-1)) dX0_step_46 (by decide) ?_
    refine td_ixor dX0_step_47 ?_
    refine td_iand dX0_step_48 ?_
    refine td_iload_n 1 dX0_step_49 rfl ?_
    obtain ⟨e50_0, K⟩ := K
    obtain ⟨e50_1, K⟩ := K
    obtain ⟨e50_2, K⟩ := K
    obtain ⟨e50_3, K⟩ := K
    obtain ⟨e50_5, K⟩ := K
    obtain ⟨e50_6, K⟩ := K
    refine cl_X0_137 rfl hk0 dX0_step_50 (Nat.le_of_ble_eq_true rfl) (c_letOut old 0 ((ms (opM (c 0 0) (c 0 1) (ix 0) (σ22 8 0))) &&& ((ms (opM (c 0 0) (c 0 1) (ix 0) (σ 8 0))) ^^^ (-1))) x1 e50_0 e50_1 e50_2 e50_3 e5_1 e50_5 e50_6) ?_
    rintro _ h50 ⟨rfl, f50⟩
    have K := K h50 f50
    refine td_eqs (st2 := []) rfl ?_
    refine td_aload_n 0 dX0_step_53 rfl ?_
    refine td_iconst (v := 1) dX0_step_54 (by decide) ?_
    refine td_aload_n 0 dX0_step_55 rfl ?_
    refine gf_X0_12 rfl hk0 dX0_step_56 ?_
    refine td_iconst (v := 1) dX0_step_59 (by decide) ?_
    obtain ⟨e60_0, K⟩ := K
    obtain ⟨e60_2, K⟩ := K
    refine cl_X0_130 rfl (kd_0_0 hk0) dX0_step_60 (Nat.le_of_ble_eq_true rfl) (c_openSet (kd_0_0 hk0) (c 0 0) (c 0 1) (σ50 8 0) 1 e60_0 e14_1 e60_2) (eR_k ?_)
    refine td_eqs (st2 := [.int (ms (opM (c 0 0) (c 0 1) (ix 1) (σ50 8 0))), .int 1, .ref k0]) rfl ?_
    refine td_iload_n 3 dX0_step_63 rfl ?_
    refine td_iconst (v := (-1)) dX0_step_64 (by decide) ?_
    refine td_ixor dX0_step_65 ?_
    refine td_iand dX0_step_66 ?_
    refine td_iload_n 1 dX0_step_67 rfl ?_
    obtain ⟨e68_0, K⟩ := K
    obtain ⟨e68_1, K⟩ := K
    obtain ⟨e68_2, K⟩ := K
    obtain ⟨e68_3, K⟩ := K
    obtain ⟨e68_5, K⟩ := K
    refine cl_X0_137 rfl hk0 dX0_step_68 (Nat.le_of_ble_eq_true rfl) (c_letOut old 1 ((ms (opM (c 0 0) (c 0 1) (ix 1) (σ50 8 0))) &&& ((ms (opM (c 0 0) (c 0 1) (ix 1) (σ 8 0))) ^^^ (-1))) x1 e68_0 e68_1 e68_2 e68_3 e14_1 e68_5 e50_6) ?_
    rintro _ h68 ⟨rfl, f68⟩
    have K := K h68 f68
    refine td_eqs (st2 := []) rfl ?_
    refine td_aload_n 0 dX0_step_71 rfl ?_
    refine gf_X0_12 rfl hk0 dX0_step_72 ?_
    refine td_iload_n 2 dX0_step_75 rfl ?_
    refine td_aload_n 0 dX0_step_76 rfl ?_
    refine gf_X0_12 rfl hk0 dX0_step_77 ?_
    refine td_iconst (v := 0) dX0_step_80 (by decide) ?_
    obtain ⟨e81_0, K⟩ := K
    obtain ⟨e81_2, K⟩ := K
    refine cl_X0_130 rfl (kd_0_0 hk0) dX0_step_81 (Nat.le_of_ble_eq_true rfl) (c_openSet (kd_0_0 hk0) (c 0 0) (c 0 1) (σ68 8 0) 0 e81_0 e5_1 e81_2) (eR_k ?_)
    refine td_eqs (st2 := [.int (ms (opM (c 0 0) (c 0 1) (ix 0) (σ68 8 0))), .int (ms (opM (c 0 0) (c 0 1) (ix 0) (σ 8 0))), .ref (k0 + 1)]) rfl ?_
    refine td_iconst (v := (-1)) dX0_step_84 (by decide) ?_
    refine td_ixor dX0_step_85 ?_
    refine td_iand dX0_step_86 ?_
    obtain ⟨e87_0, K⟩ := K
    obtain ⟨e87_1, K⟩ := K
    obtain ⟨e87_2, K⟩ := K
    obtain ⟨e87_3, K⟩ := K
    obtain ⟨e87_4, K⟩ := K
    refine cl_X0_141 rfl (kd_0_0 hk0) dX0_step_87 (Nat.le_of_ble_eq_true rfl) (c_lose (kd_0_0 hk0) m ((ms (opM (c 0 0) (c 0 1) (ix 0) (σ 8 0))) &&& ((ms (opM (c 0 0) (c 0 1) (ix 0) (σ68 8 0))) ^^^ (-1))) f cold lost e87_0 e87_1 e87_2 e87_3 e87_4) (eV_k ?_)
    refine td_eqs (st2 := []) rfl ?_
    exact td_return rfl dX0_step_90 K
theorem sTurn_8 (σ : nH) : sTurn σ 8 0 = (σ 8 0 + 1) % 12 ∧ sTurn σ 8 1 = σ 8 1 ∧ sTurn σ 8 2 = σ 8 2 ∧ sTurn σ 8 3 = σ 8 3 ∧ sTurn σ 8 4 = σ 8 4 + 1 ∧ sTurn σ 8 5 = σ 8 5 := by
  unfold sTurn
  simp [nu_app]
theorem c_C_step {G : td_G} {d : Nat} {h : td_H} {k q : Nat} {c σ : nH} {Q : Nat → Nat} (x : Int32) (hQ : dQ c Q k q h) (hV : dV c σ k h) (ok : sOK c σ) (hI : ∀ s, s < 2 → sOI c σ (σ 8 0) s) (hx : vp_in x 120) : td_C G (d + 3) mX0_step [.ref k, .int x] h (fun r h' => r = none ∧ FrD k h h' ∧ dV c (sStep c (ix x) σ) k h') := by
  have hk := hQ.1
  have hwf := hQ.2.2.2.2.1.1
  have hL := hwf.1
  have hrm := hwf.2.2.1
  have hLay := hQ.2.2.2.2.2.1
  obtain ⟨u0, u1, u2, u3, u4, u5⟩ := sTurn_8 σ
  obtain ⟨d1, d2, d3, d4⟩ := hV.2.2.1
  have fr1 : FrD k h (hu (hu h (k + 1) 7 (nI ((σ 8 0 + 1) % 12))) (k + 1) 9 (nI (σ 8 4 + 1))) := ((FrD.rf k h).put (by unfold dynP; omega) _).put (by unfold dynP; omega) _
  have hV1 : dV c (sTurn σ) k (hu (hu h (k + 1) 7 (nI ((σ 8 0 + 1) % 12))) (k + 1) 9 (nI (σ 8 4 + 1))) := by
    refine hV.sc (fun a b ha => sTurn_0 σ a b ha) (fun a b n => ?_) ?_ ?_ ?_ ?_ ?_ ?_
    · rw [hu_app, if_neg (by omega), hu_app, if_neg (by omega)]
    · rw [hu_app, if_neg (by omega), hu_app, if_pos ⟨rfl, rfl⟩, u0]
    · rw [hu_app, if_neg (by omega), hu_app, if_neg (by omega), u1]; exact hV.1.2.2.1
    · rw [hu_app, if_neg (by omega), hu_app, if_neg (by omega), u2]; exact hV.1.2.2.2.1
    · rw [hu_app, if_neg (by omega), hu_app, if_neg (by omega), u3]; exact d4
    · rw [hu_app, if_pos ⟨rfl, rfl⟩, u4]
    · rw [hu_app, if_neg (by omega), hu_app, if_neg (by omega), u5]; exact hV.1.2.2.2.2
  have ok1 : sOK c (sTurn σ) := by
    obtain ⟨a, b, e, f, g⟩ := ok
    refine ⟨by rw [u0]; omega, by rw [u1]; exact b, by rw [u2]; exact e, fun i hi => ?_, fun p hp => ?_⟩
    · have : used c (sTurn σ) i = used c σ i := by
        unfold used
        exact fb_sm_cong (fun p _ => by rw [inP_row c σ (sTurn σ) i p (sTurn_0 _ _ _ (by decide)) (sTurn_0 _ _ _ (by decide))])
      rw [this]; exact f i hi
    · rw [sTurn_0 _ _ _ (by decide), sTurn_0 _ _ _ (by decide), sTurn_0 _ _ _ (by decide)]
      exact g p hp
  have hI1 : ∀ s, s < 2 → sOI c (sTurn σ) (σ 8 0) s := fun s hs p hp => by
    rw [sTurn_0 _ _ _ (by decide), sTurn_0 _ _ _ (by decide), sTurn_0 _ _ _ (by decide)]
    exact hI s hs p hp
  have e00 : ix 0 = 0 := by decide
  have e11 : ix 1 = 1 := by decide
  -- what is lost, at the end
  have final : ∀ (σ2 : nH) (h2 : td_H), FrD k h h2 → dV c σ2 k h2 → σ2 = sOut c (ix x) (sTurn σ) (c 1 0) → sOK c σ2 → FrD k h (hu h2 (k + 1) 11 (nI (σ 8 3 + fb_sm (fun i => if (opM (c 0 0) (c 0 1) 0 (σ 8 0) i && !(opM (c 0 0) (c 0 1) 0 (σ2 8 0) i)) = true then c 0 6 * (c 0 2 - used c σ2 i) else 0) 4))) ∧ dV c (sStep c (ix x) σ) k (hu h2 (k + 1) 11 (nI (σ 8 3 + fb_sm (fun i => if (opM (c 0 0) (c 0 1) 0 (σ 8 0) i && !(opM (c 0 0) (c 0 1) 0 (σ2 8 0) i)) = true then c 0 6 * (c 0 2 - used c σ2 i) else 0) 4))) := by
    intro σ2 h2 hF2 hV2 he ok2
    refine ⟨hF2.put (by unfold dynP; omega) _, ?_⟩
    have es : sStep c (ix x) σ = nu σ2 8 3 (σ 8 3 + lossS c σ2 (σ 8 0) (c 0 0)) := by rw [he]; rfl
    rw [es, loss_4 c σ2 (σ 8 0) hL.2]
    refine hV2.sc (fun a b ha => by rw [nu_app, if_neg (fun z => ha z.1)]) (fun a b n => by rw [hu_app, if_neg (by omega)]) ?_ ?_ ?_ ?_ ?_ ?_
    · rw [hu_app, if_neg (by omega), nu_app, if_neg (by omega)]; exact hV2.2.2.1.1
    · rw [hu_app, if_neg (by omega), nu_app, if_neg (by omega)]; exact hV2.1.2.2.1
    · rw [hu_app, if_neg (by omega), nu_app, if_neg (by omega)]; exact hV2.1.2.2.2.1
    · rw [hu_app, if_pos ⟨rfl, rfl⟩, nu_app, if_pos ⟨rfl, rfl⟩]
    · rw [hu_app, if_neg (by omega), nu_app, if_neg (by omega)]; exact hV2.2.2.1.2.2.1
    · rw [hu_app, if_neg (by omega), nu_app, if_neg (by omega)]; exact hV2.1.2.2.2.2
  have lost4 : ∀ (σ2 : nH) (h2 : td_H), FrD k h h2 → dV c σ2 k h2 → sOK c σ2 → σ2 8 3 = σ 8 3 → (∀ i, i < 4 → h2 (k + 1 + 4) i = nI (c 0 2 - used c σ2 i) ∧ c 0 2 - used c σ2 i < 2 ^ 20) ∧ h2 (k + 1) 10 = nI (c 0 6) ∧ h2 (k + 1) 11 = nI (σ 8 3) := by
    intro σ2 h2 hF2 hV2 ok2 h83
    refine ⟨fun i hi => ⟨(hV2.2.2.2.1 i hi).2, by omega⟩, (hF2.Q hQ).2.2.2.2.2.2.1, ?_⟩
    rw [hV2.2.2.1.2.2.2, h83]
  have msA : ∀ (t1 t2 s : Nat), (ms (opM (c 0 0) (c 0 1) s t1) &&& (ms (opM (c 0 0) (c 0 1) s t2) ^^^ (-1))) = ms (fun i => opM (c 0 0) (c 0 1) s t1 i && !(opM (c 0 0) (c 0 1) s t2 i)) := fun t1 t2 s => ms_andn _ _
  have m4 : ∀ (t1 t2 s i : Nat), (opM (c 0 0) (c 0 1) s t1 i && !(opM (c 0 0) (c 0 1) s t2 i)) = true → i < 4 := by
    intro t1 t2 s i z
    simp [opM] at z
    omega
  have lay : ∀ h2, FrD k h h2 → dLay (c 0 0) (c 0 1) (k + 1) h2 := fun h2 hf => (hf.Q hQ).2.2.2.2.2.1
  have r8 : (hu (hu h (k + 1) 7 (nI ((σ 8 0 + 1) % 12))) (k + 1) 9 (nI (σ 8 4 + 1))) (k + 1) 8 = ms (inSt c (sTurn σ) 2) := hV1.2.2.1.2.1
  by_cases hin : (hu (hu h (k + 1) 7 (nI ((σ 8 0 + 1) % 12))) (k + 1) 9 (nI (σ 8 4 + 1))) (k + 1) 8 = 0
  · have none2 : ∀ p, p < c 1 0 → sTurn σ 0 p ≠ 2 := by
      rw [r8] at hin
      intro p hp z
      have y := ms_0.mp hin p (by have := hwf.n; omega)
      unfold inSt at y
      simp [hp, z] at y
    refine td_entry rfl (Nat.le_of_ble_eq_true rfl) rfl (gX0_step_0 (c := c) (σ := σ) (σ22 := sTurn σ) (σ50 := σ) (σ68 := σ) (Q := Q) (q := q) (old := 0) (m := fun i => opM (c 0 0) (c 0 1) 0 (σ 8 0) i && !(opM (c 0 0) (c 0 1) 0 (sTurn σ 8 0) i)) (f := fun i => c 0 2 - used c (sTurn σ) i) (cold := c 0 6) (lost := σ 8 3) hk ⟨hLay, by unfold vp_in; decide, ⟨d1, ok.1⟩, by unfold vp_in; decide, d3, fun _ => ?_, fun y => absurd hin y⟩)
    obtain ⟨l1, l2, l3⟩ := lost4 _ _ fr1 hV1 ok1 u3
    refine ⟨lay _ fr1, ⟨hV1.2.2.1.1, ok1.1⟩, ?_, m4 _ _ _, l1, l2, l3, rfl, ?_⟩
    · rw [e00]; exact msA _ _ _
    · exact final _ _ fr1 hV1 (sOut_none c (ix x) _ none2).symm ok1
  · refine td_entry rfl (Nat.le_of_ble_eq_true rfl) rfl (gX0_step_0 (c := c) (σ := σ) (σ22 := sTurn σ) (σ50 := sOB c (ix x) (sTurn σ) 0) (σ68 := sOut c (ix x) (sTurn σ) (c 1 0)) (Q := Q) (q := q) (old := σ 8 0) (m := fun i => opM (c 0 0) (c 0 1) 0 (σ 8 0) i && !(opM (c 0 0) (c 0 1) 0 (sOut c (ix x) (sTurn σ) (c 1 0) 8 0) i)) (f := fun i => c 0 2 - used c (sOut c (ix x) (sTurn σ) (c 1 0)) i) (cold := c 0 6) (lost := σ 8 3) hk ⟨hLay, by unfold vp_in; decide, ⟨d1, ok.1⟩, by unfold vp_in; decide, d3, fun y => absurd y hin, fun _ => ?_⟩)
    rw [e00, e11]
    refine ⟨lay _ fr1, ⟨hV1.2.2.1.1, ok1.1⟩, fr1.Q hQ, hV1, ok1, hI1 0 (by decide), msA _ _ _, hx, fun h50 hh50 => ?_⟩
    have okA := ok1.ob (ix x) 0
    have fr50 := fr1.tr hh50.1
    refine ⟨lay _ fr50, ⟨hh50.2.2.2.1.1, okA.1⟩, fr50.Q hQ, hh50.2, okA, ?_, msA _ _ _, fun h68 hh68 => ?_⟩
    · intro p hp h2 hsd
      have z := hI1 1 (by decide) p hp
      rw [sOB_n c (ix x) (sTurn σ) 0 0 p (by omega)] at h2
      rw [sOB_1, sOB_n c (ix x) (sTurn σ) 0 6 p (by omega)]
      exact z h2 hsd
    · have fr68 := fr50.tr hh68.1
      have eb := sOB_both c (ix x) (sTurn σ) (fun p hp => (hwf.p hp).1)
      have okB := okA.ob (ix x) 1
      rw [eb] at okB
      have hV68 := hh68.2
      rw [eb] at hV68
      obtain ⟨l1, l2, l3⟩ := lost4 _ _ fr68 hV68 okB (by rw [sOut_8]; exact u3)
      refine ⟨lay _ fr68, ⟨hV68.2.2.1.1, okB.1⟩, msA _ _ _, m4 _ _ _, l1, l2, l3, rfl, ?_⟩
      exact final _ _ fr68 hV68 rfl okB
