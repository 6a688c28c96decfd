/-! a run that is cut -/
def nw3 (t p : Nat) (σ : nH) : Prop := σ 0 p = 3 → σ 3 p = t
theorem nw3.kp {t p : Nat} {σ τ : nH} (x : nw3 t p σ) (k : kpR σ τ p) : nw3 t p τ := fun h => by rw [k.2.2.1]; exact x (by rw [← k.1]; exact h)
theorem nw3.step {t p : Nat} {c σ : nH} (x : nw3 t p σ) : nw3 t p (sStep c t σ) := by
  have x1 : nw3 t p (sTurn σ) := x.kp ⟨sTurn_0 _ _ _ (by decide), sTurn_0 _ _ _ (by decide), sTurn_0 _ _ _ (by decide), sTurn_0 _ _ _ (by decide)⟩
  have x2 : nw3 t p (sOut c t (sTurn σ) (c 1 0)) := fun h => by
    have e3 : sOut c t (sTurn σ) (c 1 0) 3 p = if p < c 1 0 ∧ goesO c (sTurn σ) p = true then t else sTurn σ 3 p := by simp [sOut]
    rw [sOut_0r] at h
    rw [e3]
    by_cases g : p < c 1 0 ∧ goesO c (sTurn σ) p = true
    · rw [if_pos g]
    · rw [if_neg g] at h ⊢
      exact x1 h
  exact x2.kp (kp_nu _ _ _ p)
theorem nw3.steps {t p : Nat} {c : nH} : ∀ k {σ : nH}, nw3 t p σ → nw3 t p (sSteps c t k σ)
  | 0, _, x => x
  | k + 1, _, x => (nw3.steps k x).step
theorem nw3.in {t p s : Nat} {c : nH} (h12 : c 1 0 ≤ 12) : ∀ m {σ : nH}, nw3 t p σ → nw3 t p (sIn c t s m σ)
  | 0, _, x => x
  | m + 1, σ, x => by
    rw [sIn_succ]
    split
    · exact x
    · split
      · exact x
      · generalize fstW c σ s (c 1 0) = f
        generalize prt c σ f = i
        refine nw3.in h12 m ?_
        by_cases e : p = f
        · subst e
          intro h
          have e0 : sEnter c t σ p i 0 p = 2 := by simp [sEnter]
          rw [e0] at h; cases h
        · exact x.kp ⟨sEnter_o _ _ _ _ _ (by decide) e, sEnter_o _ _ _ _ _ (by decide) e, sEnter_o _ _ _ _ _ (by decide) e, sEnter_o _ _ _ _ _ (by decide) e⟩
theorem nw3.walk {t p s : Nat} {c σ : nH} (x : nw3 t p σ) : nw3 t p (sWalk c t s σ) := by
  unfold sWalk
  split
  · exact x
  · generalize fstW c σ s (c 1 0) = f
    intro h
    by_cases e : p = f
    · simp [sThru, nu_app, e]
    · simp [sThru, nu_app, e] at h ⊢
      exact x h
theorem nw3.move {t p : Nat} {c σ : nH} (x : nw3 t p σ) (h12 : c 1 0 ≤ 12) : nw3 t p (sMove c t σ) := by
  unfold sMove
  split
  · unfold sFold
    refine nw3.walk (nw3.walk (nw3.walk (nw3.walk ?_)))
    have x1 : nw3 t p (nu (nu σ 8 1 0) 8 2 0) := x.kp ((kp_nu σ 1 0 p).tr (kp_nu _ 2 0 p))
    generalize nu (nu σ 8 1 0) 8 2 0 = σ1 at x1
    intro h
    by_cases z : p < c 1 0 ∧ σ1 0 p = 2
    · simp [sAllOut, z.1, z.2]
    · have z0 : ¬ (p < c 1 0 ∧ 0 = 0 ∧ σ1 0 p = 2) := fun y => z ⟨y.1, y.2.2⟩
      have z3 : ¬ (p < c 1 0 ∧ 3 = 3 ∧ σ1 0 p = 2) := fun y => z ⟨y.1, y.2.2⟩
      unfold sAllOut at h ⊢
      rw [if_neg z0, if_neg (by omega)] at h
      rw [if_neg (by omega), if_neg z3]
      exact x1 h
  · exact nw3.in h12 12 (nw3.in h12 12 (nw3.steps _ (x.kp (kp_speed c σ p))))
theorem run_new {c : nH} (h12 : c 1 0 ≤ 12) {t p : Nat} (h : sRun c t 0 p ≠ 3) : nw3 t p (sRun c (t + 1)) := by
  have x : nw3 t p (sCome c t (sRun c t) (c 1 0)) := fun z => by
    unfold sCome at z
    split at z
    · cases z
    · exact absurd z h
  rw [run_succ]
  exact (x.move h12).kp (kp_still c _ p)
theorem run_late {c : nH} (h12 : c 1 0 ≤ 12) {T p : Nat} (hp : p < c 1 0) (h : sRun c T 0 p ≠ 3) : ∀ k, sRun c (T + k) 0 p = 3 → T ≤ sRun c (T + k) 3 p
  | 0, z => absurd z h
  | k + 1, z => by
    by_cases y : sRun c (T + k) 0 p = 3
    · have e := run_stay c h12 hp (t := T + k) (Or.inl y)
      rw [← Nat.add_assoc, e.2.2.1]
      exact run_late h12 hp h k y
    · have e := run_new h12 y z
      rw [← Nat.add_assoc, e]
      omega
/-! waits are short -/
def w4I (t : Nat) (σ : nH) : Prop := ∀ p, σ 4 p ≤ t
theorem w4I.kp {t : Nat} {σ τ : nH} (x : w4I t σ) (e : ∀ p, τ 4 p = σ 4 p) : w4I t τ := fun p => by rw [e p]; exact x p
theorem w4I.step {t : Nat} {c σ : nH} (x : w4I t σ) : w4I t (sStep c t σ) := x.kp (fun p => by
  unfold sStep
  rw [nu_app, if_neg (by omega)]
  unfold sOut
  rw [if_neg (by omega), if_neg (by omega), if_neg (by omega), sTurn_0 _ _ _ (by decide)])
theorem w4I.steps {t : Nat} {c : nH} : ∀ k {σ : nH}, w4I t σ → w4I t (sSteps c t k σ)
  | 0, _, x => x
  | k + 1, _, x => (w4I.steps k x).step
theorem w4I.in {t s : Nat} {c : nH} : ∀ m {σ : nH}, w4I t σ → w4I t (sIn c t s m σ)
  | 0, _, x => x
  | m + 1, σ, x => by
    rw [sIn_succ]
    split
    · exact x
    · split
      · exact x
      · generalize fstW c σ s (c 1 0) = f
        generalize prt c σ f = i
        refine w4I.in m (fun p => ?_)
        by_cases e : p = f
        · subst e
          have e4 : sEnter c t σ p i 4 p = t - c 4 p := by simp [sEnter]
          rw [e4]; omega
        · rw [sEnter_o _ _ _ _ _ (by decide) e]; exact x p
theorem w4I.walk {t s : Nat} {c σ : nH} (x : w4I t σ) : w4I t (sWalk c t s σ) := by
  unfold sWalk
  split
  · exact x
  · generalize fstW c σ s (c 1 0) = f
    intro p
    by_cases e : p = f
    · simp [sThru, nu_app, e]
    · simp [sThru, nu_app, e]; exact x p
theorem w4I.move {t : Nat} {c σ : nH} (x : w4I t σ) : w4I t (sMove c t σ) := by
  unfold sMove
  split
  · unfold sFold
    refine w4I.walk (w4I.walk (w4I.walk (w4I.walk (x.kp (fun p => ?_)))))
    simp [sAllOut, nu_app]
  · exact w4I.in 12 (w4I.in 12 (w4I.steps _ (x.kp (fun p => (kp_speed c σ p).2.2.2))))
theorem run_w4 (c : nH) : ∀ t p, sRun c t 4 p ≤ t
  | 0, _ => Nat.le_refl _
  | t + 1, p => by
    have x : w4I t (sCome c t (sRun c t) (c 1 0)) := fun q => by
      have : sCome c t (sRun c t) (c 1 0) 4 q = sRun c t 4 q := by simp [sCome]
      rw [this]; exact run_w4 c t q
    have y := (x.move (c := c)) p
    rw [run_succ, (kp_still c _ p).2.2.2]
    omega
theorem wE_le {c : nH} (hn : c 1 0 ≤ 12) : wE c ≤ 1440 := by
  have z : wE c ≤ c 1 0 * 120 := fb_sm_bound (fun p _ => by
    unfold waitE
    have := run_w4 c 120 p
    split <;> omega)
  omega
/-! what a cut run tells -/
theorem mxN_ge (f : Nat → Nat) : ∀ n p, p < n → f p ≤ mxN f n
  | n + 1, p, hp => by
    unfold mxN
    have ih := mxN_ge f n
    rcases Nat.lt_or_ge p n with y | y
    · have := ih p y
      split <;> omega
    · rw [show p = n by omega]
      split <;> omega
theorem mxN_cong {f g : Nat → Nat} : ∀ {n : Nat}, (∀ p, p < n → f p = g p) → mxN f n = mxN g n
  | 0, _ => rfl
  | n + 1, h => by
    unfold mxN
    rw [mxN_cong (fun p hp => h p (by omega)), h n (by omega)]
theorem dRun.cut {c : nH} {last k q : Nat} {h : td_H} (x : dRun c (min (last + 1) 120) 1 k h) (hq : dP c q h) (h5 : 12 ≤ c 5 0) (hl : last ≤ 120) : ∃ f w : Nat → Nat, (∀ p, p < c 1 0 → h (k + 10) p = nI (f p) ∧ f p ≤ 120) ∧ (∀ p, p < c 1 0 → h (k + 9) p - h (q + 2) p = nI (w p)) ∧ ((mxN f (c 1 0) ≤ last ∨ lastE c ≤ last) → mxN f (c 1 0) = lastE c ∧ fb_sm w (c 1 0) = wE c) := by
  have hn := hq.1.n
  obtain ⟨T, hT, V, hc⟩ := x
  have hT120 : T ≤ 120 := by omega
  refine ⟨fun p => sRun c T 3 p, fun p => qE c (sRun c T) p - c 4 p, fun p hp => ⟨(V.2.2.2.2.2.2.2 p (by omega)).2.2.1, ?_⟩, fun p hp => ?_, fun hor => ?_⟩
  · obtain ⟨a, b, -⟩ := run_t c hn T p hp
    show sRun c T 3 p ≤ 120
    by_cases z : sRun c T 0 p = 3
    · have := a z; omega
    · have := b z; omega
  · rw [(V.2.2.2.2.2.2.2 p (by omega)).2.1, (hq.2.2.2 p hp).1]
    have := (hq.1.p hp).2.2
    refine pk_sub ?_
    unfold qE
    split <;> omega
  · -- all are as in the full run
    have all : ∀ p, p < c 1 0 → kpR (sRun c T) (sRun c 120) p := by
      by_cases thr : ∀ p, p < c 1 0 → sRun c T 0 p = 3
      · intro p hp
        have y := run_stays c hn hp (t := T) (Or.inl (thr p hp)) (120 - T)
        rwa [show T + (120 - T) = 120 by omega] at y
      · have hT2 : T = min (last + 1) 120 := by
          rcases hc with z | z
          · exact z
          · exact absurd (fun p hp => z.2 p hp (by omega)) thr
        by_cases l120 : T = 120
        · intro p _; rw [l120]; exact kpR.rf _ p
        · exfalso
          apply thr
          intro p hp
          apply Decidable.byContradiction
          intro hs
          rcases hor with z | z
          · have := mxN_ge (fun p => sRun c T 3 p) (c 1 0) p hp
            have e := (run_t c hn T p hp).2.1 hs
            have this : sRun c T 3 p ≤ mxN (fun p => sRun c T 3 p) (c 1 0) := this
            omega
          · have g := mxN_ge (fun p => sRun c 120 3 p) (c 1 0) p hp
            have g : sRun c 120 3 p ≤ lastE c := g
            by_cases s3 : sRun c 120 0 p = 3
            · have y := run_late hn hp hs (120 - T)
              rw [show T + (120 - T) = 120 by omega] at y
              have := y s3
              omega
            · have e := (run_t c hn 120 p hp).2.1 s3
              omega
    refine ⟨mxN_cong (fun p hp => (all p hp).2.2.1.symm), fb_sm_cong (fun p hp => ?_)⟩
    show qE c (sRun c T) p - c 4 p = waitE c (sRun c 120) p
    obtain ⟨a0, a2, a3, a4⟩ := all p hp
    have came := run_came c 120 p hp (by omega) (hq.1.p hp).2.2
    unfold qE waitE
    rw [← a0, ← a4]
    by_cases y : sRun c 120 0 p = 1
    · rw [if_pos y, if_pos (by omega)]
    · rw [if_neg y, if_neg (by omega)]
      omega
/-! Door: a row is weighed -/
set_option maxRecDepth 20000 in
set_option maxHeartbeats 4000000 in
theorem gX4_weigh_0 {G : td_G} {d : Nat} {Post : td_P} {n : Nat} {f w : Nat → Nat} {k1 k2 : Nat} {h : td_H} (hk1 : td_kd k1 = 2) (hk2 : td_kd k2 = 5) (K : (h k2 4) = nI n ∧ n ≤ 12 ∧ (∀ p, p < n → h (k1 + 3) p = nI (f p) ∧ f p ≤ 120) ∧ (((nI (mxN f n)) ≤ (h 69 5) → (h (k2) 4 = nI n ∧ (∀ p, p < n → h (k1 + 2) p - h (k2 + 2) p = nI (w p)) ∧ (Post none (if (nI (mxN f n)) < (h 69 5) then (copyH (hu (hu h 69 5 (nI (mxN f n))) 69 6 (nI (fb_sm w n))) (70) (71) 6) else if (h 69 6) ≤ (nI (fb_sm w n)) then h else (copyH (hu (hu h 69 5 (nI (mxN f n))) 69 6 (nI (fb_sm w n))) (70) (71) 6) : td_H)))) ∧ (¬ (nI (mxN f n)) ≤ (h 69 5) → (Post none h)))) : td_J G (d + 2) mX4_weigh Post 0 [(0, .ref 69), (1, .ref k1), (2, .ref k2)] [] h := by
  refine td_aload_n 1 dX4_weigh_0 rfl ?_
  refine td_aload_n 2 dX4_weigh_1 rfl ?_
  refine gf_X4_37 rfl hk2 dX4_weigh_2 ?_
  obtain ⟨e5_0, K⟩ := K
  obtain ⟨e5_1, K⟩ := K
  obtain ⟨e5_2, K⟩ := K
  refine cl_X4_47 rfl hk1 dX4_weigh_5 (Nat.le_of_ble_eq_true rfl) (c_F_last hk1 f n (h k2 4) e5_0 e5_1 e5_2) (eR_k ?_)
  refine td_eqs (st2 := [.int (nI (mxN f n))]) rfl ?_
  refine td_istore_n (lv2 := [(0, .ref 69), (1, .ref k1), (2, .ref k2), (3, .int (nI (mxN f n)))]) dX4_weigh_8 (by decide) rfl ?_
  refine td_iload_n 3 dX4_weigh_9 rfl ?_
  refine td_aload_n 0 dX4_weigh_10 rfl ?_
  refine gf_X4_25 rfl kp_69 dX4_weigh_11 ?_
  obtain ⟨Kt, Kf⟩ := K
  refine td_icmp_le (tgt := 18) dX4_weigh_14 (by decide) (fun q14 => ?_) (fun q14 => ?_)
  · have K := Kt q14
    refine td_aload_n 1 dX4_weigh_18 rfl ?_
    refine td_aload_n 2 dX4_weigh_19 rfl ?_
    obtain ⟨e20_0, K⟩ := K
    obtain ⟨e20_2, K⟩ := K
    refine cl_X4_53 rfl hk1 dX4_weigh_20 (Nat.le_of_ble_eq_true rfl) (c_F_waits hk1 hk2 w n e20_0 e5_1 e20_2) (eR_k ?_)
    refine td_eqs (st2 := [.int (nI (fb_sm w n))]) rfl ?_
    refine td_istore (lv2 := [(0, .ref 69), (1, .ref k1), (2, .ref k2), (3, .int (nI (mxN f n))), (4, .int (nI (fb_sm w n)))]) dX4_weigh_23 (by decide) rfl ?_
    refine td_iload_n 3 dX4_weigh_25 rfl ?_
    refine td_aload_n 0 dX4_weigh_26 rfl ?_
    refine gf_X4_25 rfl kp_69 dX4_weigh_27 ?_
    have KJ68 : td_J G (d + 2) mX4_weigh Post 68 [(0, .ref 69), (1, .ref k1), (2, .ref k2), (3, .int (nI (mxN f n))), (4, .int (nI (fb_sm w n)))] [] (if (nI (mxN f n)) < (h 69 5) then (copyH (hu (hu h 69 5 (nI (mxN f n))) 69 6 (nI (fb_sm w n))) (70) (71) 6) else if (h 69 6) ≤ (nI (fb_sm w n)) then h else (copyH (hu (hu h 69 5 (nI (mxN f n))) 69 6 (nI (fb_sm w n))) (70) (71) 6) : td_H) := by
      exact td_return rfl dX4_weigh_68 K
    refine td_icmp_lt (tgt := 42) dX4_weigh_30 (by decide) (fun q30 => ?_) (fun q30 => ?_)
    · skip
      refine td_aload_n 0 dX4_weigh_42 rfl ?_
      refine td_iload_n 3 dX4_weigh_43 rfl ?_
      refine pf_X4_25 rfl kp_69 dX4_weigh_44 ?_
      refine td_aload_n 0 dX4_weigh_47 rfl ?_
      refine td_iload 4 dX4_weigh_48 rfl ?_
      refine pf_X4_31 rfl kp_69 dX4_weigh_50 ?_
      refine td_aload_n 0 dX4_weigh_53 rfl ?_
      refine gf_X4_9 rfl kp_69 dX4_weigh_54 ?_
      refine td_iconst (v := 0) dX4_weigh_57 (by decide) ?_
      refine td_aload_n 0 dX4_weigh_58 rfl ?_
      refine gf_X4_15 rfl kp_69 dX4_weigh_59 ?_
      refine td_iconst (v := 0) dX4_weigh_62 (by decide) ?_
      refine td_bipush (v := 6) dX4_weigh_63 (by decide) ?_
      refine cc_X4_57 (q0 := 70) (q1 := 71) (N := 6) rfl rfl kp_70 kp_71 (by decide) (by decide) ⟨by decide, by decide⟩ dX4_weigh_65 (Nat.le_of_ble_eq_true rfl) ?_
      exact td_to KJ68 rfl rfl (by rw [show (if (nI (mxN f n)) < (h 69 5) then (copyH (hu (hu h 69 5 (nI (mxN f n))) 69 6 (nI (fb_sm w n))) (70) (71) 6) else if (h 69 6) ≤ (nI (fb_sm w n)) then h else (copyH (hu (hu h 69 5 (nI (mxN f n))) 69 6 (nI (fb_sm w n))) (70) (71) 6) : td_H) = _ from if_pos q30])
    · skip
      refine td_iload 4 dX4_weigh_33 rfl ?_
      refine td_aload_n 0 dX4_weigh_35 rfl ?_
      refine gf_X4_31 rfl kp_69 dX4_weigh_36 ?_
      refine td_icmp_ge (tgt := 68) dX4_weigh_39 (by decide) (fun q39 => ?_) (fun q39 => ?_)
      · skip
        exact td_to KJ68 rfl rfl (by rw [show (if (nI (mxN f n)) < (h 69 5) then (copyH (hu (hu h 69 5 (nI (mxN f n))) 69 6 (nI (fb_sm w n))) (70) (71) 6) else if (h 69 6) ≤ (nI (fb_sm w n)) then h else (copyH (hu (hu h 69 5 (nI (mxN f n))) 69 6 (nI (fb_sm w n))) (70) (71) 6) : td_H) = _ from (if_neg q30).trans (if_pos q39)])
      · skip
        refine td_aload_n 0 dX4_weigh_42 rfl ?_
        refine td_iload_n 3 dX4_weigh_43 rfl ?_
        refine pf_X4_25 rfl kp_69 dX4_weigh_44 ?_
        refine td_aload_n 0 dX4_weigh_47 rfl ?_
        refine td_iload 4 dX4_weigh_48 rfl ?_
        refine pf_X4_31 rfl kp_69 dX4_weigh_50 ?_
        refine td_aload_n 0 dX4_weigh_53 rfl ?_
        refine gf_X4_9 rfl kp_69 dX4_weigh_54 ?_
        refine td_iconst (v := 0) dX4_weigh_57 (by decide) ?_
        refine td_aload_n 0 dX4_weigh_58 rfl ?_
        refine gf_X4_15 rfl kp_69 dX4_weigh_59 ?_
        refine td_iconst (v := 0) dX4_weigh_62 (by decide) ?_
        refine td_bipush (v := 6) dX4_weigh_63 (by decide) ?_
        refine cc_X4_57 (q0 := 70) (q1 := 71) (N := 6) rfl rfl kp_70 kp_71 (by decide) (by decide) ⟨by decide, by decide⟩ dX4_weigh_65 (Nat.le_of_ble_eq_true rfl) ?_
        exact td_to KJ68 rfl rfl (by rw [show (if (nI (mxN f n)) < (h 69 5) then (copyH (hu (hu h 69 5 (nI (mxN f n))) 69 6 (nI (fb_sm w n))) (70) (71) 6) else if (h 69 6) ≤ (nI (fb_sm w n)) then h else (copyH (hu (hu h 69 5 (nI (mxN f n))) 69 6 (nI (fb_sm w n))) (70) (71) 6) : td_H) = _ from (if_neg q30).trans (if_neg q39)])
  · have K := Kf q14
    exact td_return rfl dX4_weigh_17 K
/-- the best before the i-th row -/
def obI (g : nH) (v i : Nat) (h : td_H) : Prop := (i = 0 ∧ h 69 5 = 120 ∧ h 69 6 = 2147483647) ∨ (0 < i ∧ h 69 5 = nI (lO g v (bO g v (i - 1))) ∧ h 69 6 = nI (wO g v (bO g v (i - 1))) ∧ ∀ a, a < popc v → h 71 a = nI (wh v (prm (popc v) (bO g v (i - 1)) a)))
theorem c_O_weigh {G : td_G} {d : Nat} {h : td_H} {g : nH} {v i last : Nat} (hv : ordV g v) (hr : orR g v i h) (hob : obI g v i h) (hlast : h 69 5 = nI last ∧ last ≤ 120) (hc : ∃ f w : Nat → Nat, (∀ p, p < g 1 0 → h 59 p = nI (f p) ∧ f p ≤ 120) ∧ (∀ p, p < g 1 0 → h 58 p - h 46 p = nI (w p)) ∧ ((mxN f (g 1 0) ≤ last ∨ lO g v i ≤ last) → mxN f (g 1 0) = lO g v i ∧ fb_sm w (g 1 0) = wO g v i)) (h4 : h 44 4 = nI (g 1 0)) (hn : g 1 0 ≤ 12) : td_C G (d + 2) mX4_weigh [.ref 69, .ref 56, .ref 44] h (fun r h' => r = none ∧ (∀ a b, ¬ ((a = 69 ∧ (b = 5 ∨ b = 6)) ∨ a = 71) → h' a b = h a b) ∧ obI g v (i + 1) h') := by
  obtain ⟨f, w, hf, hw, hcut⟩ := hc
  have hnO : ∀ j, lO g v j ≤ 120 ∧ wO g v j ≤ 1440 := fun j => ⟨lastE_le (by rw [cfgO_o g v j 1 0 (by decide)]; exact hn), wE_le (by rw [cfgO_o g v j 1 0 (by decide)]; exact hn)⟩
  have hm : mxN f (g 1 0) < 121 := mxN_lt (by decide) (fun p hp => by have := (hf p hp).2; omega)
  obtain ⟨r3, r70, r72⟩ := hr
  have hK := hv.2.1
  -- it is taken
  have take : mxN f (g 1 0) = lO g v i → fb_sm w (g 1 0) = wO g v i → bO g v i = i → ((none : Option Value) = none ∧ (∀ a b, ¬ ((a = 69 ∧ (b = 5 ∨ b = 6)) ∨ a = 71) → (copyH (hu (hu h 69 5 (nI (mxN f (g 1 0)))) 69 6 (nI (fb_sm w (g 1 0)))) 70 71 6) a b = h a b) ∧ obI g v (i + 1) (copyH (hu (hu h 69 5 (nI (mxN f (g 1 0)))) 69 6 (nI (fb_sm w (g 1 0)))) 70 71 6)) := by
    intro e1 e2 e3
    refine ⟨rfl, fun a b n => ?_, Or.inr ⟨by omega, ?_, ?_, fun a ha => ?_⟩⟩
    · unfold copyH
      rw [if_neg (by omega), hu_app, if_neg (by omega), hu_app, if_neg (by omega)]
    · unfold copyH
      rw [if_neg (by omega), hu_app, if_neg (by omega), hu_app, if_pos ⟨rfl, rfl⟩, e1, show i + 1 - 1 = i from rfl, e3]
    · unfold copyH
      rw [if_neg (by omega), hu_app, if_pos ⟨rfl, rfl⟩, e2, show i + 1 - 1 = i from rfl, e3]
    · unfold copyH
      rw [if_pos ⟨rfl, by omega⟩, hu_app, if_neg (by omega), hu_app, if_neg (by omega), show i + 1 - 1 = i from rfl, e3]
      exact r70 a ha
  -- it is not
  have keep : 0 < i → bO g v i = bO g v (i - 1) → ((none : Option Value) = none ∧ (∀ a b, ¬ ((a = 69 ∧ (b = 5 ∨ b = 6)) ∨ a = 71) → h a b = h a b) ∧ obI g v (i + 1) h) := by
    intro hi e
    rcases hob with z | ⟨-, z1, z2, z3⟩
    · omega
    · refine ⟨rfl, fun _ _ _ => rfl, Or.inr ⟨by omega, ?_, ?_, fun a ha => ?_⟩⟩
      · rw [show i + 1 - 1 = i from rfl, e]; exact z1
      · rw [show i + 1 - 1 = i from rfl, e]; exact z2
      · rw [show i + 1 - 1 = i from rfl, e]; exact z3 a ha
  refine td_entry rfl (Nat.le_of_ble_eq_true rfl) rfl (gX4_weigh_0 (n := g 1 0) (f := f) (w := w) (k1 := 56) (k2 := 44) rfl rfl ⟨h4, hn, hf, ?_⟩)
  rw [hlast.1]
  by_cases hi : i = 0
  · subst hi
    rcases hob with ⟨-, z1, z2⟩ | z
    · have l120 : last = 120 := by
        rw [z1] at hlast
        exact (eq_of (a := 120) hlast.1 (by decide) (by omega)).symm
      have hc2 := hcut (Or.inl (by omega))
      refine ⟨fun _ => ⟨h4, hw, ?_⟩, fun y => absurd (nle_of y) (by omega)⟩
      have hw0 := (hnO 0).2
      have n6 : ¬ h 69 6 ≤ nI (fb_sm w (g 1 0)) := by
        rw [z2, hc2.2]
        intro y
        have := le_of (a := 2147483647) y
        omega
      by_cases y : nI (mxN f (g 1 0)) < nI last
      · rw [if_pos y]; exact take hc2.1 hc2.2 rfl
      · rw [if_neg y, if_neg n6]; exact take hc2.1 hc2.2 rfl
    · omega
  · obtain ⟨j, rfl⟩ : ∃ j, i = j + 1 := ⟨i - 1, by omega⟩
    rcases hob with z | ⟨-, z1, z2, z3⟩
    · omega
    · rw [show j + 1 - 1 = j from rfl] at z1 z2 z3
      have hb := hnO (bO g v j)
      have hjj := hnO (j + 1)
      have el : last = lO g v (bO g v j) := by
        rw [z1] at hlast
        exact (eq_of hlast.1 (by omega) (by omega)).symm
      have eb : bO g v (j + 1) = if lO g v (j + 1) < lO g v (bO g v j) ∨ (lO g v (j + 1) = lO g v (bO g v j) ∧ wO g v (j + 1) < wO g v (bO g v j)) then j + 1 else bO g v j := rfl
      refine ⟨fun y => ⟨h4, hw, ?_⟩, fun y => ?_⟩
      · have y2 := le_of y
        have hc2 := hcut (Or.inl y2)
        obtain ⟨c1, c2⟩ := hc2
        rw [z2]
        by_cases y3 : lO g v (j + 1) < last
        · rw [if_pos (show nI (mxN f (g 1 0)) < nI last from (nI_ltI (by omega) (by omega)).mpr (by omega))]
          exact take c1 c2 (by rw [eb, if_pos (Or.inl (by omega))])
        · rw [if_neg (show ¬ nI (mxN f (g 1 0)) < nI last from fun u => y3 (by have := lt_of u; omega))]
          by_cases y4 : wO g v (j + 1) < wO g v (bO g v j)
          · rw [if_neg (show ¬ nI (wO g v (bO g v j)) ≤ nI (fb_sm w (g 1 0)) from fun u => by have := le_of u; omega)]
            exact take c1 c2 (by rw [eb, if_pos (Or.inr ⟨by omega, y4⟩)])
          · rw [if_pos (show nI (wO g v (bO g v j)) ≤ nI (fb_sm w (g 1 0)) from (nI_leI (by omega) (by omega)).mpr (by omega))]
            exact keep (by omega) (by rw [eb, if_neg (fun u => by omega)]; rfl)
      · have y2 := nle_of y
        have gt : last < lO g v (j + 1) := by
          rcases Nat.lt_or_ge last (lO g v (j + 1)) with u | u
          · exact u
          · have := (hcut (Or.inr u)).1
            omega
        exact keep (by omega) (by rw [eb, if_neg (fun u => by omega)]; rfl)
