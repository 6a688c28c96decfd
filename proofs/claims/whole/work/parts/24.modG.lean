/-! Model: a run -/
theorem hu_id (h : td_H) (k j : Nat) : hu h k j (h k j) = h := by
  funext a b
  rw [hu_app]
  split
  · rename_i z
    rw [z.1, z.2]
  · rfl
theorem WI.speed {c : nH} {t : Nat} {σ : nH} (w : WI c t σ) : WI c t (sSpeed c σ) := w.of (fun p hp => by
  unfold sSpeed at hp
  split at hp
  · simpa [nu_app] using hp
  · split at hp
    · simpa [nu_app] using hp
    · split at hp
      · simpa [nu_app] using hp
      · exact hp)
theorem sOut_0r (c : nH) (t : Nat) (σ : nH) (n b : Nat) : sOut c t σ n 0 b = if b < n ∧ goesO c σ b = true then 3 else σ 0 b := by
  simp [sOut]
theorem goesO_2 {c σ : nH} {p : Nat} (h : goesO c σ p = true) : σ 0 p = 2 := by
  unfold goesO atM at h
  simp at h
  exact h.1.1
theorem sStep_0 (c : nH) (t : Nat) (σ : nH) (b : Nat) : sStep c t σ 0 b = sOut c t (sTurn σ) (c 1 0) 0 b := by
  unfold sStep
  rw [nu_app, if_neg (by omega)]
theorem sTurn_0 (σ : nH) (a b : Nat) (h : a ≠ 8) : sTurn σ a b = σ a b := by
  unfold sTurn
  rw [nu_app, if_neg (fun z => h z.1), nu_app, if_neg (fun z => h z.1)]
theorem WI.step {c : nH} {t t' : Nat} {σ : nH} (w : WI c t σ) : WI c t (sStep c t' σ) := w.of (fun p hp => by
  rw [sStep_0, sOut_0r] at hp
  by_cases q : p < c 1 0 ∧ goesO c (sTurn σ) p = true
  · have z := goesO_2 q.2
    rw [sTurn_0 _ _ _ (by decide)] at z
    rw [z]; decide
  · rw [if_neg q, sTurn_0 _ _ _ (by decide)] at hp
    exact hp)
theorem WI.steps {c : nH} {t t' : Nat} : ∀ (k : Nat) {σ : nH}, WI c t σ → WI c t (sSteps c t' k σ)
  | 0, _, w => w
  | k + 1, _, w => (WI.steps k w).step
theorem WI.allOut {c : nH} {t t' n : Nat} {σ : nH} (w : WI c t σ) : WI c t (sAllOut t' σ n) := w.of (fun p hp => by
  simp only [sAllOut] at hp
  by_cases q : p < n ∧ σ 0 p = 2
  · rw [q.2]; decide
  · have q2 : ¬ (p < n ∧ True ∧ σ 0 p = 2) := fun z => q ⟨z.1, z.2.2⟩
    rw [if_neg q2, if_neg (by omega)] at hp
    exact hp)
theorem WI.fold {c : nH} {t : Nat} {σ : nH} (hn : c 1 0 ≤ 12) (w : WI c t σ) : WI c t (sFold c t σ) := by
  unfold sFold
  refine WI.walk hn (WI.walk hn (WI.walk hn (WI.walk hn (WI.allOut ?_))))
  exact w.of (fun p hp => by simpa [nu_app] using hp)
theorem WI.move {c : nH} {t : Nat} {σ : nH} (hn : c 1 0 ≤ 12) (w : WI c t σ) : WI c t (sMove c t σ) := by
  unfold sMove
  split
  · exact w.fold hn
  · exact WI.sIn hn 12 _ (WI.sIn hn 12 _ (WI.steps _ w.speed))
theorem sStill_0 (c σ : nH) (a b : Nat) (h : a ≠ 8) : sStill c σ a b = σ a b := by
  unfold sStill
  rw [nu_app, if_neg (fun z => h z.1)]
theorem WI.come {c : nH} {t n : Nat} {σ : nH} (w : ∀ p, p < c 1 0 → σ 0 p ≠ 0 → c 4 p < t) : WI c t (sCome c t σ n) := fun p hp hs => by
  unfold sCome at hs
  by_cases q : p < n ∧ 0 = 0 ∧ c 4 p = t ∧ p ≠ c 5 0
  · omega
  · rw [if_neg q] at hs
    exact Nat.le_of_lt (w p hp hs)
theorem run_wi (c : nH) (hn : c 1 0 ≤ 12) : ∀ t p, p < c 1 0 → sRun c t 0 p ≠ 0 → c 4 p < t
  | 0, p, _, h => absurd rfl h
  | t + 1, p, hp, h => by
    have w : WI c t (sMove c t (sCome c t (sRun c t) (c 1 0))) := WI.move hn (WI.come (run_wi c hn t))
    have e : sRun c (t + 1) 0 p = sMove c t (sCome c t (sRun c t) (c 1 0)) 0 p := by
      show sStill c (sMove c t (sCome c t (sRun c t) (c 1 0))) 0 p = _
      exact sStill_0 c _ 0 p (by decide)
    rw [e] at h
    have := w p hp h
    omega
theorem sCome_s (c : nH) (t : Nat) (σ : nH) (k : Nat) : sCome c t σ (k + 1) = if c 4 k = t ∧ k ≠ c 5 0 then nu (sCome c t σ k) 0 k 1 else sCome c t σ k := by
  funext a b
  by_cases q : c 4 k = t ∧ k ≠ c 5 0
  · rw [if_pos q]
    simp only [nu_app, sCome]
    by_cases e : b = k
    · subst e
      by_cases a0 : a = 0
      · subst a0; simp [q]
      · simp [a0]
    · have e2 : (b < k + 1) = (b < k) := by apply propext; omega
      simp [e, e2]
  · rw [if_neg q]
    simp only [sCome]
    by_cases e : b = k
    · subst e
      rw [if_neg (fun z => q z.2.2), if_neg (by omega)]
    · have e2 : (b < k + 1) = (b < k) := by apply propext; omega
      simp [e2]
theorem sCome_at (c : nH) (t : Nat) (σ : nH) (k a : Nat) : sCome c t σ k a k = σ a k := by simp [sCome]
theorem sStep_81 (c : nH) (t : Nat) (σ : nH) : sStep c t σ 8 1 = σ 8 1 := by
  unfold sStep
  rw [nu_app, if_neg (by omega), sOut_8]
  simp [sTurn, nu_app]
theorem sSteps_81 (c : nH) (t : Nat) : ∀ k σ, sSteps c t k σ 8 1 = σ 8 1
  | 0, _ => rfl
  | k + 1, σ => by
    show sStep c t (sSteps c t k σ) 8 1 = _
    rw [sStep_81, sSteps_81 c t k σ]
def sEndK (c σ : nH) (k : Nat) : nH := fun a b => if b < k ∧ a = 4 ∧ σ 0 b = 1 then 120 - c 4 b else σ a b
theorem sEndK_s (c σ : nH) (k : Nat) : sEndK c σ (k + 1) = if σ 0 k = 1 then nu (sEndK c σ k) 4 k (120 - c 4 k) else sEndK c σ k := by
  funext a b
  by_cases q : σ 0 k = 1
  · rw [if_pos q]
    simp only [nu_app, sEndK]
    by_cases e : b = k
    · subst e
      by_cases a0 : a = 4
      · subst a0; simp [q]
      · simp [a0]
    · have e2 : (b < k + 1) = (b < k) := by apply propext; omega
      simp [e, e2]
  · rw [if_neg q]
    simp only [sEndK]
    by_cases e : b = k
    · subst e
      simp [q]
    · have e2 : (b < k + 1) = (b < k) := by apply propext; omega
      simp [e2]
theorem sEndK_at (c σ : nH) (k a : Nat) : sEndK c σ k a k = σ a k := by simp [sEndK]
theorem exB_ms (c σ : nH) (hn : c 1 0 ≤ 12) : ms (inSt c σ 1) ||| ms (inSt c σ 2) = 0 ↔ exB (fun p => decide (σ 0 p = 1) || decide (σ 0 p = 2)) (c 1 0) = false := by
  rw [ms_or, ms_0]
  have z : ∀ n, exB (fun p => decide (σ 0 p = 1) || decide (σ 0 p = 2)) n = false ↔ ∀ p, p < n → ¬ σ 0 p = 1 ∧ ¬ σ 0 p = 2 := by
    intro n
    induction n with
    | zero => simp [exB]
    | succ n ih =>
      rw [exB_succ, Bool.or_eq_false_iff, ih]
      constructor
      · intro y p hp
        rcases Nat.lt_or_ge p n with w | w
        · exact y.1 p w
        · have : p = n := by omega
          subst this
          have y2 := y.2
          simp at y2
          exact y2
      · intro y
        exact ⟨fun p hp => y p (by omega), by have := y n (by omega); simp [this.1, this.2]⟩
  rw [z]
  constructor
  · intro y p hp
    have := y p (by omega)
    simp [inSt, hp] at this
    exact this
  · intro y i hi
    simp only [inSt]
    by_cases w : i < c 1 0
    · have := y i w
      simp [this.1, this.2]
    · simp [w]
set_option maxRecDepth 20000 in
set_option maxHeartbeats 4000000 in
theorem gX10_goTo_0 {G : td_G} {d : Nat} {Post : td_P} {x1 : Int32} {h : td_H} (K : td_J G (d + 5) mX10_goTo Post 32 [(0, .ref 85), (1, .int x1), (2, .int 0)] [] (hu (hu (hu (hu (hu (hu h 85 17 0) 85 18 0) 85 19 0) 85 20 0) 85 21 0) 85 22 0)) : td_J G (d + 5) mX10_goTo Post 0 [(0, .ref 85), (1, .int x1)] [] h := by
  refine td_aload_n 0 dX10_goTo_0 rfl ?_
  refine td_iconst (v := 0) dX10_goTo_1 (by decide) ?_
  refine pf_X10_176 rfl kp_85 dX10_goTo_2 ?_
  refine td_aload_n 0 dX10_goTo_5 rfl ?_
  refine td_iconst (v := 0) dX10_goTo_6 (by decide) ?_
  refine pf_X10_173 rfl kp_85 dX10_goTo_7 ?_
  refine td_aload_n 0 dX10_goTo_10 rfl ?_
  refine td_iconst (v := 0) dX10_goTo_11 (by decide) ?_
  refine pf_X10_170 rfl kp_85 dX10_goTo_12 ?_
  refine td_aload_n 0 dX10_goTo_15 rfl ?_
  refine td_iconst (v := 0) dX10_goTo_16 (by decide) ?_
  refine pf_X10_186 rfl kp_85 dX10_goTo_17 ?_
  refine td_aload_n 0 dX10_goTo_20 rfl ?_
  refine td_iconst (v := 0) dX10_goTo_21 (by decide) ?_
  refine pf_X10_179 rfl kp_85 dX10_goTo_22 ?_
  refine td_aload_n 0 dX10_goTo_25 rfl ?_
  refine td_iconst (v := 0) dX10_goTo_26 (by decide) ?_
  refine pf_X10_204 rfl kp_85 dX10_goTo_27 ?_
  refine td_iconst (v := 0) dX10_goTo_30 (by decide) ?_
  refine td_istore_n (lv2 := [(0, .ref 85), (1, .int x1), (2, .int 0)]) dX10_goTo_31 (by decide) rfl ?_
  exact K
set_option maxRecDepth 20000 in
set_option maxHeartbeats 4000000 in
theorem gX10_goTo_32 {G : td_G} {d : Nat} {Post : td_P} {x1 x2 : Int32} {h : td_H} (K : (12 ≤ x2 → td_J G (d + 5) mX10_goTo Post 105 [(0, .ref 85), (1, .int x1), (2, .int 0)] [] h) ∧ (¬ 12 ≤ x2 → (vp_in x2 12 ∧ (td_J G (d + 5) mX10_goTo Post 32 [(0, .ref 85), (1, .int x1), (2, .int (x2 + 1))] [] (hu (hu (hu (hu (hu (hu (hu (hu h 91 (ix x2) 0) 92 (ix x2) (-4)) 93 (ix x2) (-4)) 94 (ix x2) (-4)) 95 (ix x2) 0) 96 (ix x2) 0) 97 (ix x2) 0) 98 (ix x2) 0))))) : td_J G (d + 5) mX10_goTo Post 32 [(0, .ref 85), (1, .int x1), (2, .int x2)] [] h := by
  refine td_iload_n 2 dX10_goTo_32 rfl ?_
  refine td_bipush (v := 12) dX10_goTo_33 (by decide) ?_
  obtain ⟨Kt, Kf⟩ := K
  refine td_icmp_ge (tgt := 103) dX10_goTo_35 (by decide) (fun q35 => ?_) (fun q35 => ?_)
  · have K := Kt q35
    refine td_iconst (v := 0) dX10_goTo_103 (by decide) ?_
    refine td_istore_n (lv2 := [(0, .ref 85), (1, .int x1), (2, .int 0)]) dX10_goTo_104 (by decide) rfl ?_
    exact K
  · have K := Kf q35
    refine td_aload_n 0 dX10_goTo_38 rfl ?_
    refine gf_X10_25 rfl kp_85 dX10_goTo_39 ?_
    refine td_iload_n 2 dX10_goTo_42 rfl ?_
    refine td_iconst (v := 0) dX10_goTo_43 (by decide) ?_
    obtain ⟨e44, K⟩ := K
    refine td_iastc (j := (ix x2)) kp_91 (by decide) e44 rfl dX10_goTo_44 ?_
    refine td_aload_n 0 dX10_goTo_45 rfl ?_
    refine gf_X10_28 rfl kp_85 dX10_goTo_46 ?_
    refine td_iload_n 2 dX10_goTo_49 rfl ?_
    refine td_bipush (v := (-4)) dX10_goTo_50 (by decide) ?_
    refine td_iastc (j := (ix x2)) kp_92 (by decide) e44 rfl dX10_goTo_52 ?_
    refine td_aload_n 0 dX10_goTo_53 rfl ?_
    refine gf_X10_31 rfl kp_85 dX10_goTo_54 ?_
    refine td_iload_n 2 dX10_goTo_57 rfl ?_
    refine td_bipush (v := (-4)) dX10_goTo_58 (by decide) ?_
    refine td_iastc (j := (ix x2)) kp_93 (by decide) e44 rfl dX10_goTo_60 ?_
    refine td_aload_n 0 dX10_goTo_61 rfl ?_
    refine gf_X10_34 rfl kp_85 dX10_goTo_62 ?_
    refine td_iload_n 2 dX10_goTo_65 rfl ?_
    refine td_bipush (v := (-4)) dX10_goTo_66 (by decide) ?_
    refine td_iastc (j := (ix x2)) kp_94 (by decide) e44 rfl dX10_goTo_68 ?_
    refine td_aload_n 0 dX10_goTo_69 rfl ?_
    refine gf_X10_37 rfl kp_85 dX10_goTo_70 ?_
    refine td_iload_n 2 dX10_goTo_73 rfl ?_
    refine td_iconst (v := 0) dX10_goTo_74 (by decide) ?_
    refine td_iastc (j := (ix x2)) kp_95 (by decide) e44 rfl dX10_goTo_75 ?_
    refine td_aload_n 0 dX10_goTo_76 rfl ?_
    refine gf_X10_40 rfl kp_85 dX10_goTo_77 ?_
    refine td_iload_n 2 dX10_goTo_80 rfl ?_
    refine td_iconst (v := 0) dX10_goTo_81 (by decide) ?_
    refine td_iastc (j := (ix x2)) kp_96 (by decide) e44 rfl dX10_goTo_82 ?_
    refine td_aload_n 0 dX10_goTo_83 rfl ?_
    refine gf_X10_43 rfl kp_85 dX10_goTo_84 ?_
    refine td_iload_n 2 dX10_goTo_87 rfl ?_
    refine td_iconst (v := 0) dX10_goTo_88 (by decide) ?_
    refine td_iastc (j := (ix x2)) kp_97 (by decide) e44 rfl dX10_goTo_89 ?_
    refine td_aload_n 0 dX10_goTo_90 rfl ?_
    refine gf_X10_46 rfl kp_85 dX10_goTo_91 ?_
    refine td_iload_n 2 dX10_goTo_94 rfl ?_
    refine td_iconst (v := 0) dX10_goTo_95 (by decide) ?_
    refine td_iastc (j := (ix x2)) kp_98 (by decide) e44 rfl dX10_goTo_96 ?_
    refine td_iinc 2 (v := x2 + 1) (lv2 := [(0, .ref 85), (1, .int x1), (2, .int (x2 + 1))]) dX10_goTo_97 rfl (congrArg (x2 + ·) (by decide)) (by decide) rfl ?_
    refine td_goto (tgt := 32) dX10_goTo_100 (by decide) ?_
    exact K
set_option maxRecDepth 20000 in
set_option maxHeartbeats 4000000 in
theorem gX10_goTo_105 {G : td_G} {d : Nat} {Post : td_P} {x1 x2 : Int32} {h : td_H} (K : (x1 < x2 → td_J G (d + 5) mX10_goTo Post 255 [(0, .ref 85), (1, .int x1), (2, .int 0)] [] h) ∧ (¬ x1 < x2 → td_J G (d + 5) mX10_goTo Post 112 [(0, .ref 85), (1, .int x1), (2, .int x2), (3, .int 0)] [] h)) : td_J G (d + 5) mX10_goTo Post 105 [(0, .ref 85), (1, .int x1), (2, .int x2)] [] h := by
  refine td_iload_n 2 dX10_goTo_105 rfl ?_
  refine td_iload_n 1 dX10_goTo_106 rfl ?_
  obtain ⟨Kt, Kf⟩ := K
  refine td_icmp_gt (tgt := 253) dX10_goTo_107 (by decide) (fun q107 => ?_) (fun q107 => ?_)
  · have K := Kt q107
    refine td_iconst (v := 0) dX10_goTo_253 (by decide) ?_
    refine td_istore_n (lv2 := [(0, .ref 85), (1, .int x1), (2, .int 0)]) dX10_goTo_254 (by decide) rfl ?_
    exact K
  · have K := Kf q107
    refine td_iconst (v := 0) dX10_goTo_110 (by decide) ?_
    refine td_istore_n (lv2 := [(0, .ref 85), (1, .int x1), (2, .int x2), (3, .int 0)]) dX10_goTo_111 (by decide) rfl ?_
    exact K
set_option maxRecDepth 20000 in
set_option maxHeartbeats 4000000 in
theorem gX10_goTo_112 {G : td_G} {d : Nat} {Post : td_P} {c σ σ176 : nH} {x1 x2 x3 : Int32} {h : td_H} (K : ((h 86 9) ≤ x3 → ((x2 < (h 87 8) → (rmC c h ∧ rmS σ h ∧ (∀ h183 : td_H, (Fr h h183 ∧ rmS (sSpeed c σ) h183) → (td_J G (d + 5) mX10_goTo Post 188 [(0, .ref 85), (1, .int x1), (2, .int x2), (3, .int 0)] [] h183)))) ∧ (¬ x2 < (h 87 8) → (rmC c h ∧ rmS σ h ∧ vp_in x2 120 ∧ WI c (ix x2) σ ∧ (∀ h176 : td_H, (Fr h h176 ∧ rmS (sFold c (ix x2) σ) h176) → (((h176 85 18) = 0 → (rmC c h176 ∧ rmS σ176 h176 ∧ vp_in 1 4 ∧ (vp_in 2 4 ∧ True))) ∧ (td_J G (d + 5) mX10_goTo Post 105 [(0, .ref 85), (1, .int x1), (2, .int (x2 + 1))] [] (hu h176 85 22 ((h176 85 22) + (if (h176 85 18) = 0 then if ((ms (inSt c σ176 (ix 1))) ||| (ms (inSt c σ176 (ix 2)))) = 0 then 0 else 1 else 0 : Int32)))))))))) ∧ (¬ (h 86 9) ≤ x3 → (vp_in x3 12 ∧ (td_J G (d + 5) mX10_goTo Post 112 [(0, .ref 85), (1, .int x1), (2, .int x2), (3, .int (x3 + 1))] [] (hu h 91 (ix x3) (if (h 88 (ix x3)) = x2 then if x3 = (h 85 2) then (h 91 (ix x3)) else 1 else (h 91 (ix x3)) : Int32)))))) : td_J G (d + 5) mX10_goTo Post 112 [(0, .ref 85), (1, .int x1), (2, .int x2), (3, .int x3)] [] h := by
  refine td_iload_n 3 dX10_goTo_112 rfl ?_
  refine td_aload_n 0 dX10_goTo_113 rfl ?_
  refine gf_X10_7 rfl kp_85 dX10_goTo_114 ?_
  refine td_bipush (v := 9) dX10_goTo_117 (by decide) ?_
  refine td_ialdc (j := 9) kp_86 (by decide) (by unfold vp_in; decide) (by decide) dX10_goTo_119 ?_
  obtain ⟨Kt, Kf⟩ := K
  refine td_icmp_ge (tgt := 163) dX10_goTo_120 (by decide) (fun q120 => ?_) (fun q120 => ?_)
  · have K := Kt q120
    refine td_iload_n 2 dX10_goTo_163 rfl ?_
    refine td_aload_n 0 dX10_goTo_164 rfl ?_
    refine gf_X10_13 rfl kp_85 dX10_goTo_165 ?_
    refine td_bipush (v := 8) dX10_goTo_168 (by decide) ?_
    refine td_ialdc (j := 8) kp_87 (by decide) (by unfold vp_in; decide) (by decide) dX10_goTo_170 ?_
    obtain ⟨Kt, Kf⟩ := K
    refine td_icmp_lt (tgt := 182) dX10_goTo_171 (by decide) (fun q171 => ?_) (fun q171 => ?_)
    · have K := Kt q171
      refine td_aload_n 0 dX10_goTo_182 rfl ?_
      obtain ⟨e183_0, K⟩ := K
      obtain ⟨e183_1, K⟩ := K
      refine cl_X10_211 rfl kp_85 dX10_goTo_183 (Nat.le_of_ble_eq_true rfl) (c_push c σ e183_0 e183_1) ?_
      rintro _ h183 ⟨rfl, f183⟩
      have K := K h183 f183
      refine td_eqs (st2 := []) rfl ?_
      refine td_iconst (v := 0) dX10_goTo_186 (by decide) ?_
      refine td_istore_n (lv2 := [(0, .ref 85), (1, .int x1), (2, .int x2), (3, .int 0)]) dX10_goTo_187 (by decide) rfl ?_
      exact K
    · have K := Kf q171
      refine td_aload_n 0 dX10_goTo_174 rfl ?_
      refine td_iload_n 2 dX10_goTo_175 rfl ?_
      obtain ⟨e176_0, K⟩ := K
      obtain ⟨e176_1, K⟩ := K
      obtain ⟨e176_2, K⟩ := K
      obtain ⟨e176_3, K⟩ := K
      refine cl_X10_207 rfl kp_85 dX10_goTo_176 (Nat.le_of_ble_eq_true rfl) (c_goFolded c σ x2 e176_0 e176_1 e176_2 e176_3) ?_
      rintro _ h176 ⟨rfl, f176⟩
      have K := K h176 f176
      refine td_eqs (st2 := []) rfl ?_
      refine td_goto (tgt := 212) dX10_goTo_179 (by decide) ?_
      refine td_aload_n 0 dX10_goTo_212 rfl ?_
      refine td_dup dX10_goTo_213 rfl ?_
      refine gf_X10_204 rfl kp_85 dX10_goTo_214 ?_
      refine td_aload_n 0 dX10_goTo_217 rfl ?_
      refine gf_X10_173 rfl kp_85 dX10_goTo_218 ?_
      obtain ⟨Ks221, K⟩ := K
      have KJ243 : td_J G (d + 5) mX10_goTo Post 243 [(0, .ref 85), (1, .int x1), (2, .int x2), (3, .int x3)] [.int (if (h176 85 18) = 0 then if ((ms (inSt c σ176 (ix 1))) ||| (ms (inSt c σ176 (ix 2)))) = 0 then 0 else 1 else 0 : Int32), .int (h176 85 22), .ref 85] h176 := by
        refine td_iadd dX10_goTo_243 ?_
        refine pf_X10_204 rfl kp_85 dX10_goTo_244 ?_
        refine td_iinc 2 (v := x2 + 1) (lv2 := [(0, .ref 85), (1, .int x1), (2, .int (x2 + 1)), (3, .int x3)]) dX10_goTo_247 rfl (congrArg (x2 + ·) (by decide)) (by decide) rfl ?_
        refine td_goto (tgt := 105) dX10_goTo_250 (by decide) ?_
        refine td_drop (lv2 := [(0, .ref 85), (1, .int x1), (2, .int (x2 + 1))]) [0, 1, 2] rfl ?_
        exact K
      refine td_if_ne (tgt := 242) dX10_goTo_221 (by decide) (fun q221 => ?_) (fun q221 => ?_)
      · skip
        refine td_iconst (v := 0) dX10_goTo_242 (by decide) ?_
        exact td_to KJ243 rfl (by rw [show (if (h176 85 18) = 0 then if ((ms (inSt c σ176 (ix 1))) ||| (ms (inSt c σ176 (ix 2)))) = 0 then 0 else 1 else 0 : Int32) = _ from if_neg q221]) rfl
      · have K := Ks221 q221
        refine td_aload_n 0 dX10_goTo_224 rfl ?_
        refine td_iconst (v := 1) dX10_goTo_225 (by decide) ?_
        obtain ⟨e226_0, K⟩ := K
        obtain ⟨e226_1, K⟩ := K
        obtain ⟨e226_2, K⟩ := K
        refine cl_X10_220 rfl kp_85 dX10_goTo_226 (Nat.le_of_ble_eq_true rfl) (c_inState c σ176 1 e226_0 e226_1 e226_2) (eR_k ?_)
        refine td_eqs (st2 := [.int (ms (inSt c σ176 (ix 1))), .int (h176 85 22), .ref 85]) rfl ?_
        refine td_aload_n 0 dX10_goTo_229 rfl ?_
        refine td_iconst (v := 2) dX10_goTo_230 (by decide) ?_
        obtain ⟨e231_2, K⟩ := K
        refine cl_X10_220 rfl kp_85 dX10_goTo_231 (Nat.le_of_ble_eq_true rfl) (c_inState c σ176 2 e226_0 e226_1 e231_2) (eR_k ?_)
        refine td_eqs (st2 := [.int (ms (inSt c σ176 (ix 2))), .int (ms (inSt c σ176 (ix 1))), .int (h176 85 22), .ref 85]) rfl ?_
        refine td_ior dX10_goTo_234 ?_
        refine td_if_eq (tgt := 242) dX10_goTo_235 (by decide) (fun q235 => ?_) (fun q235 => ?_)
        · skip
          refine td_iconst (v := 0) dX10_goTo_242 (by decide) ?_
          exact td_to KJ243 rfl (by rw [show (if (h176 85 18) = 0 then if ((ms (inSt c σ176 (ix 1))) ||| (ms (inSt c σ176 (ix 2)))) = 0 then 0 else 1 else 0 : Int32) = _ from (if_pos q221).trans (if_pos q235)]) rfl
        · skip
          refine td_iconst (v := 1) dX10_goTo_238 (by decide) ?_
          refine td_goto (tgt := 243) dX10_goTo_239 (by decide) ?_
          exact td_to KJ243 rfl (by rw [show (if (h176 85 18) = 0 then if ((ms (inSt c σ176 (ix 1))) ||| (ms (inSt c σ176 (ix 2)))) = 0 then 0 else 1 else 0 : Int32) = _ from (if_pos q221).trans (if_neg q235)]) rfl
  · have K := Kf q120
    refine td_aload_n 0 dX10_goTo_123 rfl ?_
    refine gf_X10_25 rfl kp_85 dX10_goTo_124 ?_
    refine td_iload_n 3 dX10_goTo_127 rfl ?_
    refine td_aload_n 0 dX10_goTo_128 rfl ?_
    refine gf_X10_16 rfl kp_85 dX10_goTo_129 ?_
    refine td_iload_n 3 dX10_goTo_132 rfl ?_
    obtain ⟨e133, K⟩ := K
    refine td_ialdc (j := (ix x3)) kp_88 (by decide) e133 rfl dX10_goTo_133 ?_
    refine td_iload_n 2 dX10_goTo_134 rfl ?_
    have KJ156 : td_J G (d + 5) mX10_goTo Post 156 [(0, .ref 85), (1, .int x1), (2, .int x2), (3, .int x3)] [.int (if (h 88 (ix x3)) = x2 then if x3 = (h 85 2) then (h 91 (ix x3)) else 1 else (h 91 (ix x3)) : Int32), .int x3, .ref 91] h := by
      refine td_iastc (j := (ix x3)) kp_91 (by decide) e133 rfl dX10_goTo_156 ?_
      refine td_iinc 3 (v := x3 + 1) (lv2 := [(0, .ref 85), (1, .int x1), (2, .int x2), (3, .int (x3 + 1))]) dX10_goTo_157 rfl (congrArg (x3 + ·) (by decide)) (by decide) rfl ?_
      refine td_goto (tgt := 112) dX10_goTo_160 (by decide) ?_
      exact K
    refine td_icmp_ne (tgt := 150) dX10_goTo_135 (by decide) (fun q135 => ?_) (fun q135 => ?_)
    · skip
      refine td_aload_n 0 dX10_goTo_150 rfl ?_
      refine gf_X10_25 rfl kp_85 dX10_goTo_151 ?_
      refine td_iload_n 3 dX10_goTo_154 rfl ?_
      refine td_ialdc (j := (ix x3)) kp_91 (by decide) e133 rfl dX10_goTo_155 ?_
      exact td_to KJ156 rfl (by rw [show (if (h 88 (ix x3)) = x2 then if x3 = (h 85 2) then (h 91 (ix x3)) else 1 else (h 91 (ix x3)) : Int32) = _ from if_neg q135]) rfl
    · skip
      refine td_iload_n 3 dX10_goTo_138 rfl ?_
      refine td_aload_n 0 dX10_goTo_139 rfl ?_
      refine gf_X10_90 rfl kp_85 dX10_goTo_140 ?_
      refine td_icmp_eq (tgt := 150) dX10_goTo_143 (by decide) (fun q143 => ?_) (fun q143 => ?_)
      · skip
        refine td_aload_n 0 dX10_goTo_150 rfl ?_
        refine gf_X10_25 rfl kp_85 dX10_goTo_151 ?_
        refine td_iload_n 3 dX10_goTo_154 rfl ?_
        refine td_ialdc (j := (ix x3)) kp_91 (by decide) e133 rfl dX10_goTo_155 ?_
        exact td_to KJ156 rfl (by rw [show (if (h 88 (ix x3)) = x2 then if x3 = (h 85 2) then (h 91 (ix x3)) else 1 else (h 91 (ix x3)) : Int32) = _ from (if_pos q135).trans (if_pos q143)]) rfl
      · skip
        refine td_iconst (v := 1) dX10_goTo_146 (by decide) ?_
        refine td_goto (tgt := 156) dX10_goTo_147 (by decide) ?_
        exact td_to KJ156 rfl (by rw [show (if (h 88 (ix x3)) = x2 then if x3 = (h 85 2) then (h 91 (ix x3)) else 1 else (h 91 (ix x3)) : Int32) = _ from (if_pos q135).trans (if_neg q143)]) rfl
set_option maxRecDepth 20000 in
set_option maxHeartbeats 4000000 in
theorem gX10_goTo_188 {G : td_G} {d : Nat} {Post : td_P} {c σ σ209 : nH} {x1 x2 x3 : Int32} {h : td_H} (K : ((h 85 18) ≤ x3 → (rmC c h ∧ rmS σ h ∧ vp_in x2 120 ∧ WI c (ix x2) σ ∧ (∀ h209 : td_H, (Fr h h209 ∧ rmS (sIn c (ix x2) 1 12 (sIn c (ix x2) 0 12 σ)) h209) → (((h209 85 18) = 0 → (rmC c h209 ∧ rmS σ209 h209 ∧ vp_in 1 4 ∧ (vp_in 2 4 ∧ True))) ∧ (td_J G (d + 5) mX10_goTo Post 105 [(0, .ref 85), (1, .int x1), (2, .int (x2 + 1))] [] (hu h209 85 22 ((h209 85 22) + (if (h209 85 18) = 0 then if ((ms (inSt c σ209 (ix 1))) ||| (ms (inSt c σ209 (ix 2)))) = 0 then 0 else 1 else 0 : Int32)))))))) ∧ (¬ (h 85 18) ≤ x3 → (rmC c h ∧ rmS σ h ∧ vp_in x2 120 ∧ (∀ h198 : td_H, (Fr h h198 ∧ rmS (sStep c (ix x2) σ) h198) → (td_J G (d + 5) mX10_goTo Post 188 [(0, .ref 85), (1, .int x1), (2, .int x2), (3, .int (x3 + 1))] [] h198))))) : td_J G (d + 5) mX10_goTo Post 188 [(0, .ref 85), (1, .int x1), (2, .int x2), (3, .int x3)] [] h := by
  refine td_iload_n 3 dX10_goTo_188 rfl ?_
  refine td_aload_n 0 dX10_goTo_189 rfl ?_
  refine gf_X10_173 rfl kp_85 dX10_goTo_190 ?_
  obtain ⟨Kt, Kf⟩ := K
  refine td_icmp_ge (tgt := 207) dX10_goTo_193 (by decide) (fun q193 => ?_) (fun q193 => ?_)
  · have K := Kt q193
    refine td_aload_n 0 dX10_goTo_207 rfl ?_
    refine td_iload_n 2 dX10_goTo_208 rfl ?_
    obtain ⟨e209_0, K⟩ := K
    obtain ⟨e209_1, K⟩ := K
    obtain ⟨e209_2, K⟩ := K
    obtain ⟨e209_3, K⟩ := K
    refine cl_X10_217 rfl kp_85 dX10_goTo_209 (Nat.le_of_ble_eq_true rfl) (c_allStepIn c σ x2 e209_0 e209_1 e209_2 e209_3) ?_
    rintro _ h209 ⟨rfl, f209⟩
    have K := K h209 f209
    refine td_eqs (st2 := []) rfl ?_
    refine td_aload_n 0 dX10_goTo_212 rfl ?_
    refine td_dup dX10_goTo_213 rfl ?_
    refine gf_X10_204 rfl kp_85 dX10_goTo_214 ?_
    refine td_aload_n 0 dX10_goTo_217 rfl ?_
    refine gf_X10_173 rfl kp_85 dX10_goTo_218 ?_
    obtain ⟨Ks221, K⟩ := K
    have KJ243 : td_J G (d + 5) mX10_goTo Post 243 [(0, .ref 85), (1, .int x1), (2, .int x2), (3, .int x3)] [.int (if (h209 85 18) = 0 then if ((ms (inSt c σ209 (ix 1))) ||| (ms (inSt c σ209 (ix 2)))) = 0 then 0 else 1 else 0 : Int32), .int (h209 85 22), .ref 85] h209 := by
      refine td_iadd dX10_goTo_243 ?_
      refine pf_X10_204 rfl kp_85 dX10_goTo_244 ?_
      refine td_iinc 2 (v := x2 + 1) (lv2 := [(0, .ref 85), (1, .int x1), (2, .int (x2 + 1)), (3, .int x3)]) dX10_goTo_247 rfl (congrArg (x2 + ·) (by decide)) (by decide) rfl ?_
      refine td_goto (tgt := 105) dX10_goTo_250 (by decide) ?_
      refine td_drop (lv2 := [(0, .ref 85), (1, .int x1), (2, .int (x2 + 1))]) [0, 1, 2] rfl ?_
      exact K
    refine td_if_ne (tgt := 242) dX10_goTo_221 (by decide) (fun q221 => ?_) (fun q221 => ?_)
    · skip
      refine td_iconst (v := 0) dX10_goTo_242 (by decide) ?_
      exact td_to KJ243 rfl (by rw [show (if (h209 85 18) = 0 then if ((ms (inSt c σ209 (ix 1))) ||| (ms (inSt c σ209 (ix 2)))) = 0 then 0 else 1 else 0 : Int32) = _ from if_neg q221]) rfl
    · have K := Ks221 q221
      refine td_aload_n 0 dX10_goTo_224 rfl ?_
      refine td_iconst (v := 1) dX10_goTo_225 (by decide) ?_
      obtain ⟨e226_0, K⟩ := K
      obtain ⟨e226_1, K⟩ := K
      obtain ⟨e226_2, K⟩ := K
      refine cl_X10_220 rfl kp_85 dX10_goTo_226 (Nat.le_of_ble_eq_true rfl) (c_inState c σ209 1 e226_0 e226_1 e226_2) (eR_k ?_)
      refine td_eqs (st2 := [.int (ms (inSt c σ209 (ix 1))), .int (h209 85 22), .ref 85]) rfl ?_
      refine td_aload_n 0 dX10_goTo_229 rfl ?_
      refine td_iconst (v := 2) dX10_goTo_230 (by decide) ?_
      obtain ⟨e231_2, K⟩ := K
      refine cl_X10_220 rfl kp_85 dX10_goTo_231 (Nat.le_of_ble_eq_true rfl) (c_inState c σ209 2 e226_0 e226_1 e231_2) (eR_k ?_)
      refine td_eqs (st2 := [.int (ms (inSt c σ209 (ix 2))), .int (ms (inSt c σ209 (ix 1))), .int (h209 85 22), .ref 85]) rfl ?_
      refine td_ior dX10_goTo_234 ?_
      refine td_if_eq (tgt := 242) dX10_goTo_235 (by decide) (fun q235 => ?_) (fun q235 => ?_)
      · skip
        refine td_iconst (v := 0) dX10_goTo_242 (by decide) ?_
        exact td_to KJ243 rfl (by rw [show (if (h209 85 18) = 0 then if ((ms (inSt c σ209 (ix 1))) ||| (ms (inSt c σ209 (ix 2)))) = 0 then 0 else 1 else 0 : Int32) = _ from (if_pos q221).trans (if_pos q235)]) rfl
      · skip
        refine td_iconst (v := 1) dX10_goTo_238 (by decide) ?_
        refine td_goto (tgt := 243) dX10_goTo_239 (by decide) ?_
        exact td_to KJ243 rfl (by rw [show (if (h209 85 18) = 0 then if ((ms (inSt c σ209 (ix 1))) ||| (ms (inSt c σ209 (ix 2)))) = 0 then 0 else 1 else 0 : Int32) = _ from (if_pos q221).trans (if_neg q235)]) rfl
  · have K := Kf q193
    refine td_aload_n 0 dX10_goTo_196 rfl ?_
    refine td_iload_n 2 dX10_goTo_197 rfl ?_
    obtain ⟨e198_0, K⟩ := K
    obtain ⟨e198_1, K⟩ := K
    obtain ⟨e198_2, K⟩ := K
    refine cl_X10_214 rfl kp_85 dX10_goTo_198 (Nat.le_of_ble_eq_true rfl) (c_step c σ x2 e198_0 e198_1 e198_2) ?_
    rintro _ h198 ⟨rfl, f198⟩
    have K := K h198 f198
    refine td_eqs (st2 := []) rfl ?_
    refine td_iinc 3 (v := x3 + 1) (lv2 := [(0, .ref 85), (1, .int x1), (2, .int x2), (3, .int (x3 + 1))]) dX10_goTo_201 rfl (congrArg (x3 + ·) (by decide)) (by decide) rfl ?_
    refine td_goto (tgt := 188) dX10_goTo_204 (by decide) ?_
    exact K
set_option maxRecDepth 20000 in
set_option maxHeartbeats 4000000 in
theorem gX10_goTo_255 {G : td_G} {d : Nat} {Post : td_P} {x1 x2 : Int32} {h : td_H} (K : ((h 86 9) ≤ x2 → (Post none h)) ∧ (¬ (h 86 9) ≤ x2 → (vp_in x2 12 ∧ (td_J G (d + 5) mX10_goTo Post 255 [(0, .ref 85), (1, .int x1), (2, .int (x2 + 1))] [] (hu h 95 (ix x2) (if (h 91 (ix x2)) = 1 then (120 - (h 88 (ix x2))) else (h 95 (ix x2)) : Int32)))))) : td_J G (d + 5) mX10_goTo Post 255 [(0, .ref 85), (1, .int x1), (2, .int x2)] [] h := by
  refine td_iload_n 2 dX10_goTo_255 rfl ?_
  refine td_aload_n 0 dX10_goTo_256 rfl ?_
  refine gf_X10_7 rfl kp_85 dX10_goTo_257 ?_
  refine td_bipush (v := 9) dX10_goTo_260 (by decide) ?_
  refine td_ialdc (j := 9) kp_86 (by decide) (by unfold vp_in; decide) (by decide) dX10_goTo_262 ?_
  obtain ⟨Kt, Kf⟩ := K
  refine td_icmp_ge (tgt := 306) dX10_goTo_263 (by decide) (fun q263 => ?_) (fun q263 => ?_)
  · have K := Kt q263
    exact td_return rfl dX10_goTo_306 K
  · have K := Kf q263
    refine td_aload_n 0 dX10_goTo_266 rfl ?_
    refine gf_X10_37 rfl kp_85 dX10_goTo_267 ?_
    refine td_iload_n 2 dX10_goTo_270 rfl ?_
    refine td_aload_n 0 dX10_goTo_271 rfl ?_
    refine gf_X10_25 rfl kp_85 dX10_goTo_272 ?_
    refine td_iload_n 2 dX10_goTo_275 rfl ?_
    obtain ⟨e276, K⟩ := K
    refine td_ialdc (j := (ix x2)) kp_91 (by decide) e276 rfl dX10_goTo_276 ?_
    refine td_iconst (v := 1) dX10_goTo_277 (by decide) ?_
    have KJ299 : td_J G (d + 5) mX10_goTo Post 299 [(0, .ref 85), (1, .int x1), (2, .int x2)] [.int (if (h 91 (ix x2)) = 1 then (120 - (h 88 (ix x2))) else (h 95 (ix x2)) : Int32), .int x2, .ref 95] h := by
      refine td_iastc (j := (ix x2)) kp_95 (by decide) e276 rfl dX10_goTo_299 ?_
      refine td_iinc 2 (v := x2 + 1) (lv2 := [(0, .ref 85), (1, .int x1), (2, .int (x2 + 1))]) dX10_goTo_300 rfl (congrArg (x2 + ·) (by decide)) (by decide) rfl ?_
      refine td_goto (tgt := 255) dX10_goTo_303 (by decide) ?_
      exact K
    refine td_icmp_ne (tgt := 293) dX10_goTo_278 (by decide) (fun q278 => ?_) (fun q278 => ?_)
    · skip
      refine td_aload_n 0 dX10_goTo_293 rfl ?_
      refine gf_X10_37 rfl kp_85 dX10_goTo_294 ?_
      refine td_iload_n 2 dX10_goTo_297 rfl ?_
      refine td_ialdc (j := (ix x2)) kp_95 (by decide) e276 rfl dX10_goTo_298 ?_
      exact td_to KJ299 rfl (by rw [show (if (h 91 (ix x2)) = 1 then (120 - (h 88 (ix x2))) else (h 95 (ix x2)) : Int32) = _ from if_neg q278]) rfl
    · skip
      refine td_bipush (v := 120) dX10_goTo_281 (by decide) ?_
      refine td_aload_n 0 dX10_goTo_283 rfl ?_
      refine gf_X10_16 rfl kp_85 dX10_goTo_284 ?_
      refine td_iload_n 2 dX10_goTo_287 rfl ?_
      refine td_ialdc (j := (ix x2)) kp_88 (by decide) e276 rfl dX10_goTo_288 ?_
      refine td_isub dX10_goTo_289 ?_
      refine td_goto (tgt := 299) dX10_goTo_290 (by decide) ?_
      exact td_to KJ299 rfl (by rw [show (if (h 91 (ix x2)) = 1 then (120 - (h 88 (ix x2))) else (h 95 (ix x2)) : Int32) = _ from if_pos q278]) rfl
theorem c_goTo {G : td_G} {d : Nat} {h : td_H} (c : nH) (x : Int32) (hc : rmC c h) (hx : vp_in x 120) : td_C G (d + 5) mX10_goTo [.ref 85, .int x] h (fun r h' => r = none ∧ Fr h h' ∧ rmS (sEndK c (sRun c (ix x + 1)) (c 1 0)) h') := by
  obtain ⟨last, hl, rfl⟩ := vp_in_of hx (by decide)
  have el : ix (nI last) = last := ixn (by omega)
  rw [el]
  have hn := hc.1.n
  refine td_entry rfl (Nat.le_of_ble_eq_true rfl) rfl (gX10_goTo_0 ?_)
  refine td_forH 12 (fun k => [(0, .ref 85), (1, .int (nI last)), (2, .int (nI k))]) (fun k h' => Fr h h' ∧ rmK s0 h' ∧ ∀ p, p < k → rmP s0 h' p) rfl ⟨?_, ?_, fun p hp => absurd hp (by omega)⟩ (fun k hk h' hP ih => ?_) (fun h' hP => ?_)
  · exact ((((((Fr.rf h).put (by unfold simP; omega) _).put (by unfold simP; omega) _).put (by unfold simP; omega) _).put (by unfold simP; omega) _).put (by unfold simP; omega) _).put (by unfold simP; omega) _
  · unfold rmK
    simp [hu_app, s0]
    decide
  · obtain ⟨hF, hK, hPp⟩ := hP
    refine gX10_goTo_32 ⟨fun q => absurd (le_of (a := 12) q) (by omega), fun _ => ⟨vp_in_nI hk (by decide), ?_⟩⟩
    rw [ixn (by omega)]
    refine td_to (ih _ ⟨?_, ?_, fun p hp => ?_⟩) (by rw [nI_1]) rfl rfl
    · exact (((((((hF.put (by unfold simP; omega) _).put (by unfold simP; omega) _).put (by unfold simP; omega) _).put (by unfold simP; omega) _).put (by unfold simP; omega) _).put (by unfold simP; omega) _).put (by unfold simP; omega) _).put (by unfold simP; omega) _
    · unfold rmK at hK ⊢
      simpa [hu_app] using hK
    · by_cases e : p = k
      · subst e
        unfold rmP
        have m98 : ms (fun q => decide (s0 (20 + p) q = 1)) = 0 := by
          rw [ms_0]
          intro i _
          have : ¬ (20 + p = 2 ∨ 20 + p = 3) := by omega
          simp [s0, this]
        rw [m98]
        simp [hu_app, s0, nn]
        decide
      · have z := hPp p (by omega)
        unfold rmP at z ⊢
        simp only [hu_app, e, and_false, if_false]
        exact z
  · obtain ⟨hF, hK, hPp⟩ := hP
    refine gX10_goTo_32 ⟨fun _ => ?_, fun q => absurd (nle_of (a := 12) q) (by omega)⟩
    have hS0 : rmS s0 h' := ⟨hPp, hK⟩
    clear hPp hK
    refine td_forH (last + 1) (fun k => [(0, .ref 85), (1, .int (nI last)), (2, .int (nI k))]) (fun k h' => Fr h h' ∧ rmS (sRun c k) h') rfl ⟨hF, hS0⟩ (fun t ht h1 hP ih => ?_) (fun h1 hP => ?_)
    · obtain ⟨hF1, hS1⟩ := hP
      have et : ix (nI t) = t := ixn (by omega)
      have vt : vp_in (nI t) 120 := vp_in_nI (by omega) (by decide)
      refine gX10_goTo_105 ⟨fun q => absurd (lt_of q) (by omega), fun _ => ?_⟩
      refine td_forH (c 1 0) (fun k => [(0, .ref 85), (1, .int (nI last)), (2, .int (nI t)), (3, .int (nI k))]) (fun k h' => Fr h h' ∧ rmS (sCome c t (sRun c t) k) h') rfl ⟨hF1, ?_⟩ (fun k hk h2 hP2 ih2 => ?_) (fun h2 hP2 => ?_)
      · have e : sCome c t (sRun c t) 0 = sRun c t := by funext a b; simp [sCome]
        rw [e]; exact hS1
      · obtain ⟨hF2, hS2⟩ := hP2
        have hc2 := hF2.C hc
        have e9 := hc2.2.2.1
        have hpk := hc.1.p hk
        have ek : ix (nI k) = k := ixn (by omega)
        refine gX10_goTo_112 (c := c) (σ := s0) (σ176 := s0) ⟨fun q => absurd (le_of (by rw [e9] at q; exact q)) (by omega), fun _ => ⟨vp_in_nI (by omega) (by decide), ?_⟩⟩
        refine td_to (ih2 _ ?_) (by rw [nI_1]) rfl rfl
        rw [ek, (hc2.2.2.2.1 k hk).2.2, hc2.2.2.2.2, ite_c (p := nI (c 4 k) = nI t) (q := c 4 k = t) (nI_eq (by omega) (by omega)) _ _, sCome_s]
        have e5 : (nI k = if c 5 0 < 12 then nI (c 5 0) else -4) ↔ k = c 5 0 := by
          by_cases z : c 5 0 < 12
          · rw [if_pos z]; exact nI_eq (by omega) (by omega)
          · rw [if_neg z]
            constructor
            · intro y
              exact absurd (show nI k < 0 by rw [y]; decide) (nI_pos (by omega))
            · intro y; omega
        rw [ite_c e5 _ _]
        by_cases q1 : c 4 k = t
        · rw [if_pos q1]
          by_cases q2 : k = c 5 0
          · rw [if_pos q2, if_neg (fun z => z.2 q2), hu_id]
            exact ⟨hF2, hS2⟩
          · rw [if_neg q2, if_pos ⟨q1, q2⟩]
            exact ⟨hF2.put (by unfold simP; omega) _, hS2.st k (v := 1) (by decide) (by decide)⟩
        · rw [if_neg q1, if_neg (fun z => q1 z.1), hu_id]
          exact ⟨hF2, hS2⟩
      · obtain ⟨hF2, hS2⟩ := hP2
        have hc2 := hF2.C hc
        have e9 := hc2.2.2.1
        have e8 : h2 87 8 = nI (c 0 8) := hc2.2.1 8 (by decide)
        have h8 := hc.1.2.2.2.2.2.2.2.2.1
        have hW : WI c t (sCome c t (sRun c t) (c 1 0)) := WI.come (run_wi c hn t)
        have hrun : sRun c (t + 1) = sStill c (sMove c t (sCome c t (sRun c t) (c 1 0))) := rfl
        generalize sCome c t (sRun c t) (c 1 0) = σC at hS2 hW hrun
        -- what stands behind a move
        have still : ∀ (σM : nH) (h3 : td_H), Fr h h3 → rmS σM h3 → sStill c σM = sRun c (t + 1) → ((h3 85 18 = 0 → (rmC c h3 ∧ rmS σM h3 ∧ vp_in 1 4 ∧ (vp_in 2 4 ∧ True))) ∧ td_J G (d + 5) mX10_goTo (fun r h' => r = none ∧ Fr h h' ∧ rmS (sEndK c (sRun c (last + 1)) (c 1 0)) h') 105 [(0, .ref 85), (1, .int (nI last)), (2, .int (nI t + 1))] [] (hu h3 85 22 ((h3 85 22) + (if (h3 85 18) = 0 then if ((ms (inSt c σM (ix 1))) ||| (ms (inSt c σM (ix 2)))) = 0 then 0 else 1 else 0 : Int32)))) := by
          intro σM h3 hF3 hS3 he
          obtain ⟨-, ⟨k3, k4⟩, -, -, -, k6⟩ := hS3.2
          refine ⟨fun _ => ⟨hF3.C hc, hS3, by unfold vp_in; decide, by unfold vp_in; decide, trivial⟩, ?_⟩
          refine td_to (ih _ ⟨hF3.put (by unfold simP; omega) _, ?_⟩) (by rw [nI_1]) rfl rfl
          have eX : (if (h3 85 18) = 0 then if ((ms (inSt c σM (ix 1))) ||| (ms (inSt c σM (ix 2)))) = 0 then 0 else 1 else 0 : Int32) = nI (if σM 8 1 = 0 ∧ exB (fun p => decide (σM 0 p = 1) || decide (σM 0 p = 2)) (c 1 0) = true then 1 else 0) := by
            rw [k3, show ix 1 = 1 by decide, show ix 2 = 2 by decide, ite_c (p := nI (σM 8 1) = 0) (q := σM 8 1 = 0) (nI_eq (b := 0) (by omega) (by decide)) _ _, ite_c (exB_ms c σM hn) _ _]
            by_cases q1 : σM 8 1 = 0
            · by_cases q2 : exB (fun p => decide (σM 0 p = 1) || decide (σM 0 p = 2)) (c 1 0) = true
              · rw [if_pos q1, if_neg (by rw [q2]; decide), if_pos ⟨q1, q2⟩]; rfl
              · rw [if_pos q1, if_pos (by simpa using q2), if_neg (fun z => q2 z.2)]; rfl
            · rw [if_neg q1, if_neg (fun z => q1 z.1)]; rfl
          rw [eX, k6, nI_add, ← he]
          exact hS3.stills _
        refine gX10_goTo_112 (c := c) (σ := σC) (σ176 := sFold c t σC) ⟨fun _ => ⟨fun q => ?_, fun q => ?_⟩, fun q => absurd (nle_of (by rw [e9] at q; exact q)) (by omega)⟩
        · have q8 : t < c 0 8 := lt_of (by rw [e8] at q; exact q)
          refine ⟨hc2, hS2, fun h3 hh3 => ?_⟩
          have hsp := hh3.2.2.2.1
          have hW3 : WI c t (sSpeed c σC) := hW.speed
          have hmv : sMove c t σC = sIn c t 1 12 (sIn c t 0 12 (sSteps c t (sSpeed c σC 8 1) (sSpeed c σC))) := by unfold sMove; rw [if_neg (by omega)]
          rw [hmv] at hrun
          have hF3 := hF2.tr hh3.1
          have hS3 := hh3.2
          generalize sSpeed c σC = σS at hS3 hW3 hrun hsp
          refine td_forH (σS 8 1) (fun k => [(0, .ref 85), (1, .int (nI last)), (2, .int (nI t)), (3, .int (nI k))]) (fun k h' => Fr h h' ∧ rmS (sSteps c t k σS) h') rfl ⟨hF3, hS3⟩ (fun k hk h4 hP4 ih4 => ?_) (fun h4 hP4 => ?_)
          · obtain ⟨hF4, hS4⟩ := hP4
            obtain ⟨-, ⟨k3, k4⟩, -⟩ := hS4.2
            rw [sSteps_81] at k3 k4
            refine gX10_goTo_188 (c := c) (σ := sSteps c t k σS) (σ209 := s0) ⟨fun q => absurd (le_of (by rw [k3] at q; exact q)) (by omega), fun _ => ⟨hF4.C hc, hS4, vt, fun h5 hh5 => ?_⟩⟩
            rw [et] at hh5
            exact td_to (ih4 h5 ⟨hF4.tr hh5.1, hh5.2⟩) (by rw [nI_1]) rfl rfl
          · obtain ⟨hF4, hS4⟩ := hP4
            obtain ⟨-, ⟨k3, k4⟩, -⟩ := hS4.2
            rw [sSteps_81] at k3 k4
            refine gX10_goTo_188 (c := c) (σ := sSteps c t (σS 8 1) σS) (σ209 := sIn c t 1 12 (sIn c t 0 12 (sSteps c t (σS 8 1) σS))) ⟨fun _ => ?_, fun q => absurd (nle_of (by rw [k3] at q; exact q)) (by omega)⟩
            rw [et]
            refine ⟨hF4.C hc, hS4, vt, WI.steps _ hW3, fun h5 hh5 => ?_⟩
            exact still _ h5 (hF4.tr hh5.1) hh5.2 hrun.symm
        · have q8 : c 0 8 ≤ t := nlt_of (by rw [e8] at q; exact q)
          have hmv : sMove c t σC = sFold c t σC := by unfold sMove; rw [if_pos q8]
          rw [hmv] at hrun
          rw [et]
          refine ⟨hc2, hS2, vt, hW, fun h3 hh3 => ?_⟩
          exact still _ h3 (hF2.tr hh3.1) hh3.2 hrun.symm
    · obtain ⟨hF1, hS1⟩ := hP
      refine gX10_goTo_105 ⟨fun _ => ?_, fun q => absurd (nlt_of q) (by omega)⟩
      generalize sRun c (last + 1) = σR at hS1 ⊢
      refine td_forH (c 1 0) (fun k => [(0, .ref 85), (1, .int (nI last)), (2, .int (nI k))]) (fun k h' => Fr h h' ∧ rmS (sEndK c σR k) h') rfl ⟨hF1, ?_⟩ (fun k hk h2 hP2 ih2 => ?_) (fun h2 hP2 => ?_)
      · have e : sEndK c σR 0 = σR := by funext a b; simp [sEndK]
        rw [e]; exact hS1
      · obtain ⟨hF2, hS2⟩ := hP2
        have hc2 := hF2.C hc
        have e9 := hc2.2.2.1
        have hpk := hc.1.p hk
        have hk12 : k < 12 := by omega
        obtain ⟨⟨g1, g2⟩, -, -, -, g5, -⟩ := hS2.1 k hk12
        rw [sEndK_at] at g1 g2 g5
        refine gX10_goTo_255 ⟨fun q => absurd (le_of (by rw [e9] at q; exact q)) (by omega), fun _ => ⟨vp_in_nI hk12 (by decide), ?_⟩⟩
        refine td_to (ih2 _ ?_) (by rw [nI_1]) rfl rfl
        rw [ixn (by omega), (hc2.2.2.2.1 k hk).2.2, g1, ite_c (p := nI (σR 0 k) = 1) (q := σR 0 k = 1) (nI_eq (b := 1) (by omega) (by decide)) _ _, sEndK_s]
        by_cases q : σR 0 k = 1
        · rw [if_pos q, if_pos q, show (120 : Int32) - nI (c 4 k) = nI (120 - c 4 k) from pk_sub (a := 120) (by omega)]
          exact ⟨hF2.put (by unfold simP; omega) _, hS2.wait k _⟩
        · rw [if_neg q, if_neg q, hu_id]
          exact ⟨hF2, hS2⟩
      · obtain ⟨hF2, hS2⟩ := hP2
        have e9 := (hF2.C hc).2.2.1
        exact gX10_goTo_255 ⟨fun _ => ⟨rfl, hF2, hS2⟩, fun q => absurd (nle_of (by rw [e9] at q; exact q)) (by omega)⟩
set_option maxRecDepth 20000 in
set_option maxHeartbeats 4000000 in
theorem gX10_run_0 {G : td_G} {d : Nat} {Post : td_P} {c : nH} {h : td_H} (K : rmC c h ∧ vp_in 119 120 ∧ (∀ h3 : td_H, (Fr h h3 ∧ rmS (sEndK c (sRun c (ix 119 + 1)) (c 1 0)) h3) → (Post none h3))) : td_J G (d + 6) mX10_run Post 0 [(0, .ref 85)] [] h := by
  refine td_aload_n 0 dX10_run_0 rfl ?_
  refine td_bipush (v := 119) dX10_run_1 (by decide) ?_
  obtain ⟨e3_0, K⟩ := K
  obtain ⟨e3_1, K⟩ := K
  refine cl_X10_223 rfl kp_85 dX10_run_3 (Nat.le_of_ble_eq_true rfl) (c_goTo c 119 e3_0 e3_1) ?_
  rintro _ h3 ⟨rfl, f3⟩
  have K := K h3 f3
  refine td_eqs (st2 := []) rfl ?_
  exact td_return rfl dX10_run_6 K
theorem c_run {G : td_G} {d : Nat} {h : td_H} (c : nH) (hc : rmC c h) : td_C G (d + 6) mX10_run [.ref 85] h (fun r h' => r = none ∧ Fr h h' ∧ rmS (sEndK c (sRun c 120) (c 1 0)) h') := by
  refine td_entry rfl (Nat.le_of_ble_eq_true rfl) rfl (gX10_run_0 (c := c) ⟨hc, by unfold vp_in; decide, fun h1 hh => ⟨rfl, ?_⟩⟩)
  rw [show ix 119 = 119 by decide] at hh
  exact hh
