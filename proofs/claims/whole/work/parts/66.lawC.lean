/-! ===== QUERIES: what they change is only what was worked out ===== -/
theorem c1F {g : nH} {h h' : td_H} (z : h 0 8 = 0 ∨ (h 0 8 = 1 ∧ plI g h)) (e : ∀ a b, (a = 0 ∧ b = 8) ∨ (17 ≤ a ∧ a ≤ 31) ∨ (37 ≤ a ∧ a ≤ 42) → h' a b = h a b) : h' 0 8 = 0 ∨ (h' 0 8 = 1 ∧ plI g h') := by
  rcases z with z | z
  · left; rw [e _ _ (by omega)]; exact z
  · right
    refine ⟨by rw [e _ _ (by omega)]; exact z.1, z.2.1.log (fun a b _ _ => e a b (by omega)), fun t ht => ?_⟩
    obtain ⟨b1, b2, b3, b4, b5⟩ := z.2.2 t ht
    exact ⟨by rw [e _ _ (by omega)]; exact b1, by rw [e _ _ (by omega)]; exact b2, by rw [e _ _ (by omega)]; exact b3, by rw [e _ _ (by omega)]; exact b4, fun i hi => by rw [e _ _ (by omega)]; exact b5 i hi⟩
theorem c2F {g : nH} {h h' : td_H} (z : moI g h) (e : ∀ a b, (a = 43 ∧ b = 7) ∨ a = 73 → h' a b = h a b) : moI g h' := by
  obtain ⟨K, k1, k2, k3⟩ := z
  exact ⟨K, k1, by rw [e _ _ (by omega)]; exact k2, fun m hm => by rw [e _ _ (by omega)]; exact k3 m hm⟩
theorem c3F {g : nH} {h h' : td_H} (z : h 43 8 = 0 ∨ (h 43 8 = 1 ∧ doI g 18 h)) (e : ∀ a b, (a = 43 ∧ b = 8) ∨ a = 74 ∨ a = 75 → h' a b = h a b) : h' 43 8 = 0 ∨ (h' 43 8 = 1 ∧ doI g 18 h') := by
  rcases z with z | z
  · left; rw [e _ _ (by omega)]; exact z
  · right; exact ⟨by rw [e _ _ (by omega)]; exact z.1, fun k hk => ⟨by rw [e _ _ (by omega)]; exact (z.2 k hk).1, by rw [e _ _ (by omega)]; exact (z.2 k hk).2⟩⟩
theorem c4F {g : nH} {h h' : td_H} (z : h 43 9 = 0 ∨ (h 43 9 = 1 ∧ enI g 189 h)) (e : ∀ a b, (a = 43 ∧ b = 9) ∨ a = 76 → h' a b = h a b) : h' 43 9 = 0 ∨ (h' 43 9 = 1 ∧ enI g 189 h') := by
  rcases z with z | z
  · left; rw [e _ _ (by omega)]; exact z
  · right; exact ⟨by rw [e _ _ (by omega)]; exact z.1, fun k hk p hp => by rw [e _ _ (by omega)]; exact z.2 k hk p hp⟩
theorem c5F {g : nH} {h h' : td_H} (z : orI g h) (e : ∀ a b, (a = 69 ∧ 4 ≤ b) ∨ a = 71 → h' a b = h a b) : orI g h' := by
  rcases z with z | ⟨v, v1, v2, v3, v4⟩
  · left; rw [e _ _ (by omega)]; exact z
  · right; exact ⟨v, v1, v2, by rw [e _ _ (by omega)]; exact v3, v4.fr (e _ _ (by omega)) (e _ _ (by omega)) (fun b => e _ _ (by omega))⟩
theorem DI.play {s : gS} {h h' : td_H} (x : DI s h) (f : FrP h h') (h8 : h' 0 8 = 1) (p : plI s.1 h') (k : dKn 18 h') : DI s h' ∧ FM h h' := by
  obtain ⟨xa, c1, c2, c3, c4, c5⟩ := x
  exact ⟨⟨xa.fr (fun a b r => f a b (by unfold regA at r; omega)) k (xa.2.2.2.2.2.2.2.fr (fun a b _ _ => f a b (by omega))), Or.inr ⟨h8, p⟩, c2F c2 (fun a b r => f a b (by omega)), c3F c3 (fun a b r => f a b (by omega)), c4F c4 (fun a b r => f a b (by omega)), c5F c5 (fun a b r => f a b (by omega))⟩, fun a b z => f a b (by omega)⟩
theorem DI.m1 {s : gS} {h h' : td_H} (x : DI s h) (f : FrM1 h h') (k : dKn 50 h') (p : moI s.1 h') : DI s h' ∧ FM h h' := by
  obtain ⟨xa, c1, c2, c3, c4, c5⟩ := x
  exact ⟨⟨xa.fr (fun a b r => f a b (by unfold regA at r; omega)) (xa.2.2.2.2.2.2.1.fr (fun a b _ _ => f a b (by omega))) k, c1F c1 (fun a b r => f a b (by omega)), p, c3F c3 (fun a b r => f a b (by omega)), c4F c4 (fun a b r => f a b (by omega)), c5F c5 (fun a b r => f a b (by omega))⟩, fun a b z => f a b (by omega)⟩
theorem DI.m2 {s : gS} {h h' : td_H} (x : DI s h) (f : FrM2 h h') (k : dKn 50 h') (h8 : h' 43 8 = 1) (p : doI s.1 18 h') : DI s h' ∧ FM h h' := by
  obtain ⟨xa, c1, c2, c3, c4, c5⟩ := x
  exact ⟨⟨xa.fr (fun a b r => f a b (by unfold regA at r; omega)) (xa.2.2.2.2.2.2.1.fr (fun a b _ _ => f a b (by omega))) k, c1F c1 (fun a b r => f a b (by omega)), c2F c2 (fun a b r => f a b (by omega)), Or.inr ⟨h8, p⟩, c4F c4 (fun a b r => f a b (by omega)), c5F c5 (fun a b r => f a b (by omega))⟩, fun a b z => f a b (by omega)⟩
theorem DI.m3 {s : gS} {h h' : td_H} (x : DI s h) (f : FrM3 h h') (k : dKn 50 h') (h8 : h' 43 9 = 1) (p : enI s.1 189 h') : DI s h' ∧ FM h h' := by
  obtain ⟨xa, c1, c2, c3, c4, c5⟩ := x
  exact ⟨⟨xa.fr (fun a b r => f a b (by unfold regA at r; omega)) (xa.2.2.2.2.2.2.1.fr (fun a b _ _ => f a b (by omega))) k, c1F c1 (fun a b r => f a b (by omega)), c2F c2 (fun a b r => f a b (by omega)), c3F c3 (fun a b r => f a b (by omega)), Or.inr ⟨h8, p⟩, c5F c5 (fun a b r => f a b (by omega))⟩, fun a b z => f a b (by omega)⟩
theorem DI.m4 {s : gS} {h h' : td_H} (x : DI s h) (f : FrM4 h h') (k : dKn 50 h') {v : Nat} (hv : ordV s.1 v) (hv2 : v < 4096) (h4 : h' 69 4 = nI v) (p : obI s.1 v (fct (popc v)) h') : DI s h' ∧ FM h h' := by
  obtain ⟨xa, c1, c2, c3, c4, c5⟩ := x
  exact ⟨⟨xa.fr (fun a b r => f a b (by unfold regA at r; omega)) (xa.2.2.2.2.2.2.1.fr (fun a b _ _ => f a b (by omega))) k, c1F c1 (fun a b r => f a b (by omega)), c2F c2 (fun a b r => f a b (by omega)), c3F c3 (fun a b r => f a b (by omega)), c4F c4 (fun a b r => f a b (by omega)), Or.inr ⟨v, hv, hv2, h4, p⟩⟩, fun a b z => f a b (by omega)⟩
theorem DI.m5 {s : gS} {h h' : td_H} (x : DI s h) (f : ∀ a b, ¬ ((49 ≤ a ∧ a ≤ 63) ∨ (a = 43 ∧ b = 10)) → h' a b = h a b) (k : dKn 50 h') : DI s h' ∧ FM h h' := by
  obtain ⟨xa, c1, c2, c3, c4, c5⟩ := x
  exact ⟨⟨xa.fr (fun a b r => f a b (by unfold regA at r; omega)) (xa.2.2.2.2.2.2.1.fr (fun a b _ _ => f a b (by omega))) k, c1F c1 (fun a b r => f a b (by omega)), c2F c2 (fun a b r => f a b (by omega)), c3F c3 (fun a b r => f a b (by omega)), c4F c4 (fun a b r => f a b (by omega)), c5F c5 (fun a b r => f a b (by omega))⟩, fun a b z => f a b (by omega)⟩
/-! who was caught -/
def w5I (σ : nH) : Prop := ∀ p, σ 5 p ≤ 1
theorem w5I.kp {σ τ : nH} (x : w5I σ) (e : ∀ p, τ 5 p = σ 5 p) : w5I τ := fun p => by rw [e p]; exact x p
theorem w5I.step {t : Nat} {c σ : nH} (x : w5I σ) : w5I (sStep c t σ) := x.kp (fun p => by
  unfold sStep
  rw [nu_app, if_neg (by omega)]
  unfold sOut
  rw [if_neg (by omega), if_neg (by omega), if_neg (by omega), sTurn_0 _ _ _ (by decide)])
theorem w5I.steps {t : Nat} {c : nH} : ∀ k {σ : nH}, w5I σ → w5I (sSteps c t k σ)
  | 0, _, x => x
  | k + 1, _, x => (w5I.steps k x).step
theorem w5I.in {t s : Nat} {c : nH} : ∀ m {σ : nH}, w5I σ → w5I (sIn c t s m σ)
  | 0, _, x => x
  | m + 1, σ, x => by
    rw [sIn_succ]
    split
    · exact x
    · split
      · exact x
      · generalize fstW c σ s (c 1 0) = f
        generalize prt c σ f = i
        refine w5I.in m (fun p => ?_)
        have e5 : sEnter c t σ f i 5 p = if p = f ∧ caughtB c σ f i = true then 1 else σ 5 p := by
          unfold sEnter
          rw [if_neg (by omega), if_neg (by omega), if_neg (by omega), if_neg (by omega), if_neg (by omega)]
          by_cases z : p = f ∧ caughtB c σ f i = true
          · rw [if_pos ⟨rfl, z⟩, if_pos z]
          · rw [if_neg (fun w => z w.2), if_neg (fun w => absurd w.1 (by decide)), if_neg (fun w => absurd w.1 (by omega)), if_neg (fun w => absurd w.1 (by omega)), if_neg z]
        rw [e5]
        split
        · exact Nat.le_refl 1
        · exact x p
theorem w5I.walk {t s : Nat} {c σ : nH} (x : w5I σ) : w5I (sWalk c t s σ) := by
  unfold sWalk
  split
  · exact x
  · generalize fstW c σ s (c 1 0) = f
    intro p
    simp [sThru, nu_app]; exact x p
theorem sp_5 (c σ : nH) (p : Nat) : sSpeed c σ 5 p = σ 5 p := by
  unfold sSpeed
  split
  · rw [nu_app, if_neg (by omega), nu_app, if_neg (by omega)]
  · split
    · rw [nu_app, if_neg (by omega)]
    · split
      · rw [nu_app, if_neg (by omega)]
      · rfl
theorem w5I.move {t : Nat} {c σ : nH} (x : w5I σ) : w5I (sMove c t σ) := by
  unfold sMove
  split
  · unfold sFold
    refine w5I.walk (w5I.walk (w5I.walk (w5I.walk (x.kp (fun p => ?_)))))
    simp [sAllOut, nu_app]
  · exact w5I.in 12 (w5I.in 12 (w5I.steps _ (x.kp (fun p => sp_5 c σ p))))
theorem run_5 (c : nH) : ∀ t, w5I (sRun c t)
  | 0 => fun p => by show s0 5 p ≤ 1; simp [s0]
  | t + 1 => by
    have x : w5I (sCome c t (sRun c t) (c 1 0)) := (run_5 c t).kp (fun q => by simp [sCome])
    rw [run_succ]
    refine (x.move (c := c) (t := t)).kp (fun p => ?_)
    unfold sStill
    rw [nu_app, if_neg (by omega)]
theorem nn_if {v : Nat} (h : v ≤ 120) : (if (120 : Int32) ≤ nI v then (-4 : Int32) else nI v) = nn v := by
  unfold nn
  by_cases e : v = 120
  · subst e; rfl
  · rw [if_neg e, if_neg (fun z => e (by have := le_of (a := 120) z; omega))]
theorem run_2 (c : nH) (hn : c 1 0 ≤ 12) {p : Nat} (hp : p < c 1 0) : sRun c 120 2 p ≤ 120 := by
  have := (run_t c hn 120 p hp).2.2
  omega
theorem wait_q {c : nH} (hw : wfC c) (h5 : 12 ≤ c 5 0) {p : Nat} (hp : p < c 1 0) : qE c (sRun c 120) p - c 4 p = waitE c (sRun c 120) p ∧ c 4 p ≤ qE c (sRun c 120) p := by
  have hn := hw.n
  have h4 := (hw.p hp).2.2
  have came := run_came c 120 p hp (by omega) h4
  unfold qE waitE
  by_cases y : sRun c 120 0 p = 1
  · rw [if_pos y, if_pos (by omega)]; omega
  · rw [if_neg y, if_neg (by omega)]
    omega
/-! fate -/
set_option maxRecDepth 20000 in
set_option maxHeartbeats 4000000 in
theorem gX9_fate_0 {G : td_G} {d : Nat} {Post : td_P} {c : nH} {x1 x2 : Int32} {h : td_H} (K : ((b2i (0 ≤ x1 ∧ x1 < h 1 4)) = 0 → (Post (some (.int (-1))) h)) ∧ (¬ (b2i (0 ≤ x1 ∧ x1 < h 1 4)) = 0 → ((¬ (b2i (0 ≤ x2 ∧ x2 < 4)) = 0 → (dP c 1 h ∧ 12 ≤ c 5 0 ∧ dKn 18 h ∧ (h 0 8 = 0 ∨ (h 0 8 = 1 ∧ plI c h)) ∧ (∀ h22 : td_H, (FrP h h22 ∧ h22 0 8 = 1 ∧ plI c h22 ∧ dKn 18 h22) → ((x2 = 0 → (vp_in x1 12 ∧ (Post (some (.int (if 120 ≤ (h22 25 (ix x1)) then (-4) else (h22 25 (ix x1)) : Int32))) h22))) ∧ (x2 = 1 → (vp_in x1 12 ∧ (Post (some (.int (if 120 ≤ (h22 27 (ix x1)) then (-4) else (h22 27 (ix x1)) : Int32))) h22))) ∧ (x2 = 2 → (vp_in x1 12 ∧ (Post (some (.int ((h22 (24 + 2) (ix x1)) - (h22 (1 + 2) (ix x1))))) h22))) ∧ (¬ x2 = 0 ∧ ¬ x2 = 1 ∧ ¬ x2 = 2 → (Post (some (.int ((jshr (h22 24 5) x1) &&& 1))) h22)))))) ∧ ((b2i (0 ≤ x2 ∧ x2 < 4)) = 0 → (Post (some (.int (-1))) h))))) : td_J G (d + 6) mX9_fate Post 0 [(0, .ref 0), (1, .int x1), (2, .int x2)] [] h := by
  refine td_aload_n 0 dX9_fate_0 rfl ?_
  refine gf_X9_12 rfl kp_0 dX9_fate_1 ?_
  refine td_iload_n 1 dX9_fate_4 rfl ?_
  refine cl_X9_88 rfl kp_1 dX9_fate_5 (Nat.le_of_ble_eq_true rfl) (c_P_has kp_1 x1) (eR_k ?_)
  refine td_eqs (st2 := [.int (b2i (0 ≤ x1 ∧ x1 < h 1 4))]) rfl ?_
  obtain ⟨Kt, Kf⟩ := K
  refine td_if_eq (tgt := 19) dX9_fate_8 (by decide) (fun q8 => ?_) (fun q8 => ?_)
  · have K := Kt q8
    refine td_iconst (v := (-1)) dX9_fate_19 (by decide) ?_
    exact td_ireturn rfl dX9_fate_20 K
  · have K := Kf q8
    refine td_iload_n 2 dX9_fate_11 rfl ?_
    refine td_iconst (v := 4) dX9_fate_12 (by decide) ?_
    refine cl_X9_54 rfl dX9_fate_13 (Nat.le_of_ble_eq_true rfl) (c_isIn x2 4) (eR_k ?_)
    refine td_eqs (st2 := [.int (b2i (0 ≤ x2 ∧ x2 < 4))]) rfl ?_
    obtain ⟨Kt, Kf⟩ := K
    refine td_if_ne (tgt := 21) dX9_fate_16 (by decide) (fun q16 => ?_) (fun q16 => ?_)
    · have K := Kt q16
      refine td_aload_n 0 dX9_fate_21 rfl ?_
      obtain ⟨e22_0, K⟩ := K
      obtain ⟨e22_1, K⟩ := K
      obtain ⟨e22_2, K⟩ := K
      obtain ⟨e22_3, K⟩ := K
      refine cl_X9_129 rfl kp_0 dX9_fate_22 (Nat.le_of_ble_eq_true rfl) (c_X_play e22_0 e22_1 e22_2 e22_3) ?_
      rintro _ h22 ⟨rfl, f22⟩
      have K := K h22 f22
      refine td_eqs (st2 := []) rfl ?_
      refine td_aload_n 0 dX9_fate_25 rfl ?_
      refine gf_X9_35 rfl kp_0 dX9_fate_26 ?_
      refine gf_X9_132 rfl kp_17 dX9_fate_29 ?_
      refine td_astore_n (lv2 := [(0, .ref 0), (1, .int x1), (2, .int x2), (3, .ref 24)]) dX9_fate_32 (by decide) rfl ?_
      refine td_iload_n 2 dX9_fate_33 rfl ?_
      obtain ⟨K0, K⟩ := K
      by_cases q0 : x2 = 0
      · have K := K0 q0
        refine td_eqs (congrArg (fun z => Value.int z :: []) q0.symm) ?_
        refine td_tsin (tgt := 60) dX9_fate_34 (by decide) (by decide) rfl (by decide) ?_
        refine td_aload_n 3 dX9_fate_60 rfl ?_
        refine gf_X9_136 rfl kp_24 dX9_fate_61 ?_
        refine td_iload_n 1 dX9_fate_64 rfl ?_
        obtain ⟨e65, K⟩ := K
        refine td_ialdc (j := (ix x1)) kp_25 (by decide) e65 rfl dX9_fate_65 ?_
        refine td_bipush (v := 120) dX9_fate_66 (by decide) ?_
        have KJ82 : td_J G (d + 6) mX9_fate Post 82 [(0, .ref 0), (1, .int x1), (2, .int x2), (3, .ref 24)] [.int (if 120 ≤ (h22 25 (ix x1)) then (-4) else (h22 25 (ix x1)) : Int32)] h22 := by
          exact td_ireturn rfl dX9_fate_82 K
        refine td_icmp_ge (tgt := 80) dX9_fate_68 (by decide) (fun q68 => ?_) (fun q68 => ?_)
        · skip
          refine td_bipush (v := (-4)) dX9_fate_80 (by decide) ?_
          exact td_to KJ82 rfl (by rw [show (if 120 ≤ (h22 25 (ix x1)) then (-4) else (h22 25 (ix x1)) : Int32) = _ from if_pos q68]) rfl
        · skip
          refine td_aload_n 3 dX9_fate_71 rfl ?_
          refine gf_X9_136 rfl kp_24 dX9_fate_72 ?_
          refine td_iload_n 1 dX9_fate_75 rfl ?_
          refine td_ialdc (j := (ix x1)) kp_25 (by decide) e65 rfl dX9_fate_76 ?_
          refine td_goto (tgt := 82) dX9_fate_77 (by decide) ?_
          exact td_to KJ82 rfl (by rw [show (if 120 ≤ (h22 25 (ix x1)) then (-4) else (h22 25 (ix x1)) : Int32) = _ from if_neg q68]) rfl
      obtain ⟨K1, K⟩ := K
      by_cases q1 : x2 = 1
      · have K := K1 q1
        refine td_eqs (congrArg (fun z => Value.int z :: []) q1.symm) ?_
        refine td_tsin (tgt := 83) dX9_fate_34 (by decide) (by decide) rfl (by decide) ?_
        refine td_aload_n 3 dX9_fate_83 rfl ?_
        refine gf_X9_141 rfl kp_24 dX9_fate_84 ?_
        refine td_iload_n 1 dX9_fate_87 rfl ?_
        obtain ⟨e88, K⟩ := K
        refine td_ialdc (j := (ix x1)) kp_27 (by decide) e88 rfl dX9_fate_88 ?_
        refine td_bipush (v := 120) dX9_fate_89 (by decide) ?_
        have KJ105 : td_J G (d + 6) mX9_fate Post 105 [(0, .ref 0), (1, .int x1), (2, .int x2), (3, .ref 24)] [.int (if 120 ≤ (h22 27 (ix x1)) then (-4) else (h22 27 (ix x1)) : Int32)] h22 := by
          exact td_ireturn rfl dX9_fate_105 K
        refine td_icmp_ge (tgt := 103) dX9_fate_91 (by decide) (fun q91 => ?_) (fun q91 => ?_)
        · skip
          refine td_bipush (v := (-4)) dX9_fate_103 (by decide) ?_
          exact td_to KJ105 rfl (by rw [show (if 120 ≤ (h22 27 (ix x1)) then (-4) else (h22 27 (ix x1)) : Int32) = _ from if_pos q91]) rfl
        · skip
          refine td_aload_n 3 dX9_fate_94 rfl ?_
          refine gf_X9_141 rfl kp_24 dX9_fate_95 ?_
          refine td_iload_n 1 dX9_fate_98 rfl ?_
          refine td_ialdc (j := (ix x1)) kp_27 (by decide) e88 rfl dX9_fate_99 ?_
          refine td_goto (tgt := 105) dX9_fate_100 (by decide) ?_
          exact td_to KJ105 rfl (by rw [show (if 120 ≤ (h22 27 (ix x1)) then (-4) else (h22 27 (ix x1)) : Int32) = _ from if_neg q91]) rfl
      obtain ⟨K2, K⟩ := K
      by_cases q2 : x2 = 2
      · have K := K2 q2
        refine td_eqs (congrArg (fun z => Value.int z :: []) q2.symm) ?_
        refine td_tsin (tgt := 106) dX9_fate_34 (by decide) (by decide) rfl (by decide) ?_
        refine td_aload_n 3 dX9_fate_106 rfl ?_
        refine td_iload_n 1 dX9_fate_107 rfl ?_
        refine td_aload_n 0 dX9_fate_108 rfl ?_
        refine gf_X9_12 rfl kp_0 dX9_fate_109 ?_
        obtain ⟨e112_0, K⟩ := K
        refine cl_X9_144 rfl kp_24 dX9_fate_112 (Nat.le_of_ble_eq_true rfl) (c_F_waitOf kp_24 kp_1 x1 e112_0) (eR_k ?_)
        refine td_eqs (st2 := [.int ((h22 (24 + 2) (ix x1)) - (h22 (1 + 2) (ix x1)))]) rfl ?_
        exact td_ireturn rfl dX9_fate_115 K
      have K := K ⟨q0, q1, q2⟩
      refine td_tsout (tgt := 116) dX9_fate_34 (by have z : ∀ n : Nat, n < 16 → ¬ x2 = nI n → x2.toInt ≠ n := fun n hn e g => e (td_i32 g hn); have z0 := z 0 (by decide) q0; have z1 := z 1 (by decide) q1; have z2 := z 2 (by decide) q2; omega) (by decide) ?_
      refine td_aload_n 3 dX9_fate_116 rfl ?_
      refine gf_X9_148 rfl kp_24 dX9_fate_117 ?_
      refine td_iload_n 1 dX9_fate_120 rfl ?_
      refine td_ishr dX9_fate_121 ?_
      refine td_iconst (v := 1) dX9_fate_122 (by decide) ?_
      refine td_iand dX9_fate_123 ?_
      exact td_ireturn rfl dX9_fate_124 K
    · have K := Kf q16
      refine td_iconst (v := (-1)) dX9_fate_19 (by decide) ?_
      exact td_ireturn rfl dX9_fate_20 K
def aFate (g : nH) (p : Nat) (y : Int32) : Int32 := if y = 0 then nn (sRun g 120 2 p) else if y = 1 then nn (sRun g 120 3 p) else if y = 2 then nI (waitE g (sRun g 120) p) else nI (sRun g 120 5 p)
def rFate (g : nH) (x y : Int32) : Int32 := if isP g x ∧ (0 ≤ y ∧ y < 4) then aFate g (ix x) y else -1
theorem D_fate {G : td_G} {d : Nat} {h : td_H} {s : gS} (x1 x2 : Int32) (I : DI s h) : td_C G (d + 6) mX9_fate [.ref 0, .int x1, .int x2] h (dPost (rFate s.1 x1 x2) s h) := by
  have e4 : h 1 4 = nI (s.1 1 0) := I.1.1.2.2.1
  refine td_entry rfl (Nat.le_of_ble_eq_true rfl) rfl (gX9_fate_0 (c := s.1) ?_)
  rw [e4]
  by_cases ok1 : isP s.1 x1
  · by_cases ok2 : (0 ≤ x2 ∧ x2 < 4)
    · obtain ⟨p, hp, rfl, ep, v12⟩ := isP_of I.1.1.1 ok1
      have ea : rFate s.1 (nI p) x2 = aFate s.1 p x2 := by unfold rFate; rw [if_pos ⟨ok1, ok2⟩, ep]
      refine ⟨fun y => absurd ok1 (bz y), fun _ => ⟨fun _ => ⟨I.1.1, I.1.2.1, I.1.2.2.2.2.2.2.1, I.2.1, fun h2 hh => ?_⟩, fun y => absurd ok2 (bz y)⟩⟩
      obtain ⟨I2, F2⟩ := I.play hh.1 hh.2.1 hh.2.2.1 hh.2.2.2
      have hn := I.1.1.1.n
      have V := hh.2.2.1.1.2.2.2.2.2
      have f25 : h2 25 p = nI (sRun s.1 120 2 p) := (V.2.2 p (by omega)).1
      have f26 : h2 26 p = nI (qE s.1 (sRun s.1 120) p) := (V.2.2 p (by omega)).2.1
      have f27 : h2 27 p = nI (sRun s.1 120 3 p) := (V.2.2 p (by omega)).2.2.1
      have f3 : h2 3 p = nI (s.1 4 p) := (I2.1.1.2.2.2 p hp).1
      have f5 : h2 24 5 = ms (fun p => decide (p < s.1 1 0) && decide (sRun s.1 120 5 p = 1)) := V.2.1
      rw [ep, ea]
      refine ⟨fun y => ⟨v12, ?_, I2, F2⟩, fun y => ⟨v12, ?_, I2, F2⟩, fun y => ⟨v12, ?_, I2, F2⟩, fun y => ⟨?_, I2, F2⟩⟩ <;> unfold aFate
      · rw [f25, nn_if (run_2 s.1 hn hp), if_pos y]
      · subst y
        rw [f27, nn_if (end_le hn hp), if_neg (by decide), if_pos rfl]
      · subst y
        show some (Value.int (h2 26 p - h2 3 p)) = _
        have wq := wait_q I.1.1.1 I.1.2.1 hp
        rw [if_neg (by decide), if_neg (by decide), if_pos rfl, f26, f3, pk_sub wq.2, wq.1]
      · have b5 := run_5 s.1 120 p
        rw [if_neg y.1, if_neg y.2.1, if_neg y.2.2, f5, ms_bit _ (by omega)]
        rcases (by omega : sRun s.1 120 5 p = 0 ∨ sRun s.1 120 5 p = 1) with z | z
        · rw [z]; simp; rfl
        · rw [z]; simp [hp]; rfl
    · have ea : rFate s.1 x1 x2 = -1 := by unfold rFate; rw [if_neg (fun z => ok2 z.2)]
      rw [ea]
      exact ⟨fun _ => ⟨rfl, I, FM.rf h⟩, fun _ => ⟨fun y => absurd (bnz y) ok2, fun _ => ⟨rfl, I, FM.rf h⟩⟩⟩
  · have ea : rFate s.1 x1 x2 = -1 := by unfold rFate; rw [if_neg (fun z => ok1 z.1)]
    rw [ea]
    exact ⟨fun _ => ⟨rfl, I, FM.rf h⟩, fun y => absurd (bnz y) ok1⟩
/-! at -/
theorem c_L_ins {G : td_G} {d : Nat} {h : td_H} (c σ : nH) (x : Int32) (hx : vp_in x 120) (hi : ∀ i, i < 4 → h 42 (ix x * 4 + i) = ms (inP c σ i)) (ho : ∀ p, p < c 1 0 → σ 0 p = 2 → σ 1 p < 4) : td_C G d mX3_insideAt [.ref 37, .int x] h (eR (ms (inSt c σ 2)) h) := c_L_inside x hx hi ho
set_option maxRecDepth 20000 in
set_option maxHeartbeats 4000000 in
theorem gX9_at_0 {G : td_G} {d : Nat} {Post : td_P} {c σ20 : nH} {x1 x2 : Int32} {h : td_H} (K : ((b2i (0 ≤ x1 ∧ x1 < 120)) = 0 → (Post (some (.int (-1))) h)) ∧ (¬ (b2i (0 ≤ x1 ∧ x1 < 120)) = 0 → ((¬ (b2i (0 ≤ x2 ∧ x2 < 5)) = 0 → (dP c 1 h ∧ 12 ≤ c 5 0 ∧ dKn 18 h ∧ (h 0 8 = 0 ∨ (h 0 8 = 1 ∧ plI c h)) ∧ (∀ h20 : td_H, (FrP h h20 ∧ h20 0 8 = 1 ∧ plI c h20 ∧ dKn 18 h20) → ((x2 = 0 → (vp_in x1 120 ∧ (Post (some (.int (h20 38 (ix x1)))) h20))) ∧ (x2 = 1 → (vp_in x1 120 ∧ (Post (some (.int (h20 39 (ix x1)))) h20))) ∧ (x2 = 2 → (vp_in x1 120 ∧ (∀ i, i < 4 → h20 42 (ix x1 * 4 + i) = ms (inP c σ20 i)) ∧ (∀ p, p < c 1 0 → σ20 0 p = 2 → σ20 1 p < 4) ∧ (Post (some (.int (ms (inSt c σ20 2)))) h20))) ∧ (x2 = 3 → (vp_in x1 120 ∧ (Post (some (.int (h20 40 (ix x1)))) h20))) ∧ (¬ x2 = 0 ∧ ¬ x2 = 1 ∧ ¬ x2 = 2 ∧ ¬ x2 = 3 → (vp_in x1 120 ∧ (Post (some (.int (h20 41 (ix x1)))) h20))))))) ∧ ((b2i (0 ≤ x2 ∧ x2 < 5)) = 0 → (Post (some (.int (-1))) h))))) : td_J G (d + 6) mX9_at Post 0 [(0, .ref 0), (1, .int x1), (2, .int x2)] [] h := by
  refine td_iload_n 1 dX9_at_0 rfl ?_
  refine td_bipush (v := 120) dX9_at_1 (by decide) ?_
  refine cl_X9_54 rfl dX9_at_3 (Nat.le_of_ble_eq_true rfl) (c_isIn x1 120) (eR_k ?_)
  refine td_eqs (st2 := [.int (b2i (0 ≤ x1 ∧ x1 < 120))]) rfl ?_
  obtain ⟨Kt, Kf⟩ := K
  refine td_if_eq (tgt := 17) dX9_at_6 (by decide) (fun q6 => ?_) (fun q6 => ?_)
  · have K := Kt q6
    refine td_iconst (v := (-1)) dX9_at_17 (by decide) ?_
    exact td_ireturn rfl dX9_at_18 K
  · have K := Kf q6
    refine td_iload_n 2 dX9_at_9 rfl ?_
    refine td_iconst (v := 5) dX9_at_10 (by decide) ?_
    refine cl_X9_54 rfl dX9_at_11 (Nat.le_of_ble_eq_true rfl) (c_isIn x2 5) (eR_k ?_)
    refine td_eqs (st2 := [.int (b2i (0 ≤ x2 ∧ x2 < 5))]) rfl ?_
    obtain ⟨Kt, Kf⟩ := K
    refine td_if_ne (tgt := 19) dX9_at_14 (by decide) (fun q14 => ?_) (fun q14 => ?_)
    · have K := Kt q14
      refine td_aload_n 0 dX9_at_19 rfl ?_
      obtain ⟨e20_0, K⟩ := K
      obtain ⟨e20_1, K⟩ := K
      obtain ⟨e20_2, K⟩ := K
      obtain ⟨e20_3, K⟩ := K
      refine cl_X9_129 rfl kp_0 dX9_at_20 (Nat.le_of_ble_eq_true rfl) (c_X_play e20_0 e20_1 e20_2 e20_3) ?_
      rintro _ h20 ⟨rfl, f20⟩
      have K := K h20 f20
      refine td_eqs (st2 := []) rfl ?_
      refine td_iload_n 2 dX9_at_23 rfl ?_
      obtain ⟨K0, K⟩ := K
      by_cases q0 : x2 = 0
      · have K := K0 q0
        refine td_eqs (congrArg (fun z => Value.int z :: []) q0.symm) ?_
        refine td_tsin (tgt := 56) dX9_at_24 (by decide) (by decide) rfl (by decide) ?_
        refine td_aload_n 0 dX9_at_56 rfl ?_
        refine gf_X9_42 rfl kp_0 dX9_at_57 ?_
        refine gf_X9_151 rfl kp_37 dX9_at_60 ?_
        refine td_iload_n 1 dX9_at_63 rfl ?_
        obtain ⟨e64, K⟩ := K
        refine td_ialdc (j := (ix x1)) kp_38 (by decide) e64 rfl dX9_at_64 ?_
        exact td_ireturn rfl dX9_at_65 K
      obtain ⟨K1, K⟩ := K
      by_cases q1 : x2 = 1
      · have K := K1 q1
        refine td_eqs (congrArg (fun z => Value.int z :: []) q1.symm) ?_
        refine td_tsin (tgt := 66) dX9_at_24 (by decide) (by decide) rfl (by decide) ?_
        refine td_aload_n 0 dX9_at_66 rfl ?_
        refine gf_X9_42 rfl kp_0 dX9_at_67 ?_
        refine gf_X9_154 rfl kp_37 dX9_at_70 ?_
        refine td_iload_n 1 dX9_at_73 rfl ?_
        obtain ⟨e74, K⟩ := K
        refine td_ialdc (j := (ix x1)) kp_39 (by decide) e74 rfl dX9_at_74 ?_
        exact td_ireturn rfl dX9_at_75 K
      obtain ⟨K2, K⟩ := K
      by_cases q2 : x2 = 2
      · have K := K2 q2
        refine td_eqs (congrArg (fun z => Value.int z :: []) q2.symm) ?_
        refine td_tsin (tgt := 76) dX9_at_24 (by decide) (by decide) rfl (by decide) ?_
        refine td_aload_n 0 dX9_at_76 rfl ?_
        refine gf_X9_42 rfl kp_0 dX9_at_77 ?_
        refine td_iload_n 1 dX9_at_80 rfl ?_
        obtain ⟨e81_0, K⟩ := K
        obtain ⟨e81_1, K⟩ := K
        obtain ⟨e81_2, K⟩ := K
        refine cl_X9_157 rfl kp_37 dX9_at_81 (Nat.le_of_ble_eq_true rfl) (c_L_ins c σ20 x1 e81_0 e81_1 e81_2) (eR_k ?_)
        refine td_eqs (st2 := [.int (ms (inSt c σ20 2))]) rfl ?_
        exact td_ireturn rfl dX9_at_84 K
      obtain ⟨K3, K⟩ := K
      by_cases q3 : x2 = 3
      · have K := K3 q3
        refine td_eqs (congrArg (fun z => Value.int z :: []) q3.symm) ?_
        refine td_tsin (tgt := 85) dX9_at_24 (by decide) (by decide) rfl (by decide) ?_
        refine td_aload_n 0 dX9_at_85 rfl ?_
        refine gf_X9_42 rfl kp_0 dX9_at_86 ?_
        refine gf_X9_160 rfl kp_37 dX9_at_89 ?_
        refine td_iload_n 1 dX9_at_92 rfl ?_
        obtain ⟨e93, K⟩ := K
        refine td_ialdc (j := (ix x1)) kp_40 (by decide) e93 rfl dX9_at_93 ?_
        exact td_ireturn rfl dX9_at_94 K
      have K := K ⟨q0, q1, q2, q3⟩
      refine td_tsout (tgt := 95) dX9_at_24 (by have z : ∀ n : Nat, n < 16 → ¬ x2 = nI n → x2.toInt ≠ n := fun n hn e g => e (td_i32 g hn); have z0 := z 0 (by decide) q0; have z1 := z 1 (by decide) q1; have z2 := z 2 (by decide) q2; have z3 := z 3 (by decide) q3; omega) (by decide) ?_
      refine td_aload_n 0 dX9_at_95 rfl ?_
      refine gf_X9_42 rfl kp_0 dX9_at_96 ?_
      refine gf_X9_163 rfl kp_37 dX9_at_99 ?_
      refine td_iload_n 1 dX9_at_102 rfl ?_
      obtain ⟨e103, K⟩ := K
      refine td_ialdc (j := (ix x1)) kp_41 (by decide) e103 rfl dX9_at_103 ?_
      exact td_ireturn rfl dX9_at_104 K
    · have K := Kf q14
      refine td_iconst (v := (-1)) dX9_at_17 (by decide) ?_
      exact td_ireturn rfl dX9_at_18 K
def aAt (g : nH) (t : Nat) (y : Int32) : Int32 := if y = 0 then nI (sRun g (t + 1) 8 0) else if y = 1 then nI (sRun g (t + 1) 8 1) else if y = 2 then ms (inSt g (sRun g (t + 1)) 2) else if y = 3 then ms (inSt g (sRun g (t + 1)) 1) else nI (sRun g (t + 1) 8 2)
def rAt (g : nH) (x y : Int32) : Int32 := if (0 ≤ x ∧ x < 120) ∧ (0 ≤ y ∧ y < 5) then aAt g (ix x) y else -1
theorem D_at {G : td_G} {d : Nat} {h : td_H} {s : gS} (x1 x2 : Int32) (I : DI s h) : td_C G (d + 6) mX9_at [.ref 0, .int x1, .int x2] h (dPost (rAt s.1 x1 x2) s h) := by
  refine td_entry rfl (Nat.le_of_ble_eq_true rfl) rfl (gX9_at_0 (c := s.1) (σ20 := sRun s.1 (ix x1 + 1)) ?_)
  by_cases ok1 : (0 ≤ x1 ∧ x1 < 120)
  · by_cases ok2 : (0 ≤ x2 ∧ x2 < 5)
    · obtain ⟨t, ht, rfl⟩ := in_n (n := 120) (by decide) ok1
      have et : ix (nI t) = t := ixn (by omega)
      have v120 : vp_in (nI t) 120 := vp_in_nI ht (by decide)
      have ea : rAt s.1 (nI t) x2 = aAt s.1 t x2 := by unfold rAt; rw [if_pos ⟨ok1, ok2⟩, et]
      refine ⟨fun y => absurd ok1 (bz y), fun _ => ⟨fun _ => ⟨I.1.1, I.1.2.1, I.1.2.2.2.2.2.2.1, I.2.1, fun h2 hh => ?_⟩, fun y => absurd ok2 (bz y)⟩⟩
      obtain ⟨I2, F2⟩ := I.play hh.1 hh.2.1 hh.2.2.1 hh.2.2.2
      obtain ⟨b1, b2, b3, b4, b5⟩ := hh.2.2.1.2 t ht
      rw [et, ea]
      refine ⟨fun y => ⟨v120, ?_, I2, F2⟩, fun y => ⟨v120, ?_, I2, F2⟩, fun y => ⟨v120, b5, fun p hp h2 => ?_, ?_, I2, F2⟩, fun y => ⟨v120, ?_, I2, F2⟩, fun y => ⟨v120, ?_, I2, F2⟩⟩
      · unfold aAt; rw [if_pos y, b1]
      · subst y; unfold aAt; rw [if_neg (by decide), if_pos rfl, b2]
      · have z := (run_I I.1.1.1 (t + 1)).1.2.2.2.2 p hp
        have := I.1.1.1.1
        have := z.2.2 h2
        omega
      · subst y; unfold aAt; rw [if_neg (by decide), if_neg (by decide), if_pos rfl]
      · subst y; unfold aAt; rw [if_neg (by decide), if_neg (by decide), if_neg (by decide), if_pos rfl, b3]
      · unfold aAt; rw [if_neg y.1, if_neg y.2.1, if_neg y.2.2.1, if_neg y.2.2.2, b4]
    · have ea : rAt s.1 x1 x2 = -1 := by unfold rAt; rw [if_neg (fun z => ok2 z.2)]
      rw [ea]
      exact ⟨fun _ => ⟨rfl, I, FM.rf h⟩, fun _ => ⟨fun y => absurd (bnz y) ok2, fun _ => ⟨rfl, I, FM.rf h⟩⟩⟩
  · have ea : rAt s.1 x1 x2 = -1 := by unfold rAt; rw [if_neg (fun z => ok1 z.1)]
    rw [ea]
    exact ⟨fun _ => ⟨rfl, I, FM.rf h⟩, fun y => absurd (bnz y) ok1⟩
/-! within -/
set_option maxRecDepth 20000 in
set_option maxHeartbeats 4000000 in
theorem gX9_within_0 {G : td_G} {d : Nat} {Post : td_P} {c : nH} {x1 x2 : Int32} {h : td_H} (K : ((b2i (0 ≤ x1 ∧ x1 < 120)) = 0 → (Post (some (.int (-1))) h)) ∧ (¬ (b2i (0 ≤ x1 ∧ x1 < 120)) = 0 → ((¬ (b2i (0 ≤ x2 ∧ x2 < (h 2 0))) = 0 → (dP c 1 h ∧ 12 ≤ c 5 0 ∧ dKn 18 h ∧ (h 0 8 = 0 ∨ (h 0 8 = 1 ∧ plI c h)) ∧ (∀ h28 : td_H, (FrP h h28 ∧ h28 0 8 = 1 ∧ plI c h28 ∧ dKn 18 h28) → (vp_in ((x1 * 4) + x2) 480 ∧ (Post (some (.int (h28 42 (ix ((x1 * 4) + x2))))) h28))))) ∧ ((b2i (0 ≤ x2 ∧ x2 < (h 2 0))) = 0 → (Post (some (.int (-1))) h))))) : td_J G (d + 6) mX9_within Post 0 [(0, .ref 0), (1, .int x1), (2, .int x2)] [] h := by
  refine td_iload_n 1 dX9_within_0 rfl ?_
  refine td_bipush (v := 120) dX9_within_1 (by decide) ?_
  refine cl_X9_54 rfl dX9_within_3 (Nat.le_of_ble_eq_true rfl) (c_isIn x1 120) (eR_k ?_)
  refine td_eqs (st2 := [.int (b2i (0 ≤ x1 ∧ x1 < 120))]) rfl ?_
  obtain ⟨Kt, Kf⟩ := K
  refine td_if_eq (tgt := 25) dX9_within_6 (by decide) (fun q6 => ?_) (fun q6 => ?_)
  · have K := Kt q6
    refine td_iconst (v := (-1)) dX9_within_25 (by decide) ?_
    exact td_ireturn rfl dX9_within_26 K
  · have K := Kf q6
    refine td_iload_n 2 dX9_within_9 rfl ?_
    refine td_aload_n 0 dX9_within_10 rfl ?_
    refine gf_X9_12 rfl kp_0 dX9_within_11 ?_
    refine gf_X9_65 rfl kp_1 dX9_within_14 ?_
    refine td_iconst (v := 0) dX9_within_17 (by decide) ?_
    refine td_ialdc (j := 0) kp_2 (by decide) (by unfold vp_in; decide) (by decide) dX9_within_18 ?_
    refine cl_X9_54 rfl dX9_within_19 (Nat.le_of_ble_eq_true rfl) (c_isIn x2 (h 2 0)) (eR_k ?_)
    refine td_eqs (st2 := [.int (b2i (0 ≤ x2 ∧ x2 < (h 2 0)))]) rfl ?_
    obtain ⟨Kt, Kf⟩ := K
    refine td_if_ne (tgt := 27) dX9_within_22 (by decide) (fun q22 => ?_) (fun q22 => ?_)
    · have K := Kt q22
      refine td_aload_n 0 dX9_within_27 rfl ?_
      obtain ⟨e28_0, K⟩ := K
      obtain ⟨e28_1, K⟩ := K
      obtain ⟨e28_2, K⟩ := K
      obtain ⟨e28_3, K⟩ := K
      refine cl_X9_129 rfl kp_0 dX9_within_28 (Nat.le_of_ble_eq_true rfl) (c_X_play e28_0 e28_1 e28_2 e28_3) ?_
      rintro _ h28 ⟨rfl, f28⟩
      have K := K h28 f28
      refine td_eqs (st2 := []) rfl ?_
      refine td_aload_n 0 dX9_within_31 rfl ?_
      refine gf_X9_42 rfl kp_0 dX9_within_32 ?_
      refine gf_X9_166 rfl kp_37 dX9_within_35 ?_
      refine td_iload_n 1 dX9_within_38 rfl ?_
      refine td_iconst (v := 4) dX9_within_39 (by decide) ?_
      refine td_imul dX9_within_40 ?_
      refine td_iload_n 2 dX9_within_41 rfl ?_
      refine td_iadd dX9_within_42 ?_
      obtain ⟨e43, K⟩ := K
      refine td_ialdc (j := (ix ((x1 * 4) + x2))) kp_42 (by decide) e43 rfl dX9_within_43 ?_
      exact td_ireturn rfl dX9_within_44 K
    · have K := Kf q22
      refine td_iconst (v := (-1)) dX9_within_25 (by decide) ?_
      exact td_ireturn rfl dX9_within_26 K
def rWith (g : nH) (x y : Int32) : Int32 := if (0 ≤ x ∧ x < 120) ∧ (0 ≤ y ∧ y < nI (g 0 0)) then ms (inP g (sRun g (ix x + 1)) (ix y)) else -1
theorem D_within {G : td_G} {d : Nat} {h : td_H} {s : gS} (x1 x2 : Int32) (I : DI s h) : td_C G (d + 6) mX9_within [.ref 0, .int x1, .int x2] h (dPost (rWith s.1 x1 x2) s h) := by
  have e0 : h 2 0 = nI (s.1 0 0) := I.1.1.2.1 0 (by decide)
  have hL := I.1.1.1.1
  refine td_entry rfl (Nat.le_of_ble_eq_true rfl) rfl (gX9_within_0 (c := s.1) ?_)
  rw [e0]
  by_cases ok1 : (0 ≤ x1 ∧ x1 < 120)
  · by_cases ok2 : (0 ≤ x2 ∧ x2 < nI (s.1 0 0))
    · have ea : rWith s.1 x1 x2 = ms (inP s.1 (sRun s.1 (ix x1 + 1)) (ix x2)) := by unfold rWith; rw [if_pos ⟨ok1, ok2⟩]
      rw [ea]
      refine ⟨fun y => absurd ok1 (bz y), fun _ => ⟨fun _ => ⟨I.1.1, I.1.2.1, I.1.2.2.2.2.2.2.1, I.2.1, fun h2 hh => ?_⟩, fun y => absurd ok2 (bz y)⟩⟩
      obtain ⟨t, ht, rfl⟩ := in_n (n := 120) (by decide) ok1
      obtain ⟨i, hi, rfl⟩ := in_n (by omega) ok2
      obtain ⟨I2, F2⟩ := I.play hh.1 hh.2.1 hh.2.2.1 hh.2.2.2
      have em : nI t * 4 + nI i = nI (t * 4 + i) := by rw [show (4 : Int32) = nI 4 from rfl, pk_mul, nI_add]
      rw [em, ixn (i := t * 4 + i) (by omega), ixn (i := t) (by omega), ixn (i := i) (by omega)]
      exact ⟨vp_in_nI (by omega) (by decide), by rw [(hh.2.2.1.2 t ht).2.2.2.2 i (by omega)], I2, F2⟩
    · have ea : rWith s.1 x1 x2 = -1 := by unfold rWith; rw [if_neg (fun z => ok2 z.2)]
      rw [ea]
      exact ⟨fun _ => ⟨rfl, I, FM.rf h⟩, fun _ => ⟨fun y => absurd (bnz y) ok2, fun _ => ⟨rfl, I, FM.rf h⟩⟩⟩
  · have ea : rWith s.1 x1 x2 = -1 := by unfold rWith; rw [if_neg (fun z => ok1 z.1)]
    rw [ea]
    exact ⟨fun _ => ⟨rfl, I, FM.rf h⟩, fun y => absurd (bnz y) ok1⟩
/-! all -/
set_option maxRecDepth 20000 in
set_option maxHeartbeats 4000000 in
theorem gX9_all_0 {G : td_G} {d : Nat} {Post : td_P} {n v : Nat} {f w : Nat → Nat} {c : nH} {x1 : Int32} {h : td_H} (K : (¬ (b2i (0 ≤ x1 ∧ x1 < 7)) = 0 → (dP c 1 h ∧ 12 ≤ c 5 0 ∧ dKn 18 h ∧ (h 0 8 = 0 ∨ (h 0 8 = 1 ∧ plI c h)) ∧ (∀ h12 : td_H, (FrP h h12 ∧ h12 0 8 = 1 ∧ plI c h12 ∧ dKn 18 h12) → ((x1 = 0 → ((h12 24 4) = nI v ∧ v < 4096 ∧ (Post (some (.int (nI (fb_ct (fun i => v.testBit i) 12)))) h12))) ∧ (x1 = 1 → ((h12 1 4) = nI n ∧ n ≤ 12 ∧ (∀ p, p < n → h12 (24 + 3) p = nI (f p) ∧ f p ≤ 120) ∧ (Post (some (.int (nI (mxN f n)))) h12))) ∧ (x1 = 2 → (h12 (1) 4 = nI n ∧ n ≤ 12 ∧ (∀ p, p < n → h12 (24 + 2) p - h12 (1 + 2) p = nI (w p)) ∧ (Post (some (.int (nI (fb_sm w n)))) h12))) ∧ (x1 = 3 → (Post (some (.int (h12 18 11))) h12)) ∧ (x1 = 4 → (Post (some (.int (h12 18 9))) h12)) ∧ (x1 = 5 → ((h12 24 5) = nI v ∧ v < 4096 ∧ (Post (some (.int (nI (fb_ct (fun i => v.testBit i) 12)))) h12))) ∧ (¬ x1 = 0 ∧ ¬ x1 = 1 ∧ ¬ x1 = 2 ∧ ¬ x1 = 3 ∧ ¬ x1 = 4 ∧ ¬ x1 = 5 → (Post (some (.int (h12 17 14))) h12)))))) ∧ ((b2i (0 ≤ x1 ∧ x1 < 7)) = 0 → (Post (some (.int (-1))) h))) : td_J G (d + 6) mX9_all Post 0 [(0, .ref 0), (1, .int x1)] [] h := by
  refine td_iload_n 1 dX9_all_0 rfl ?_
  refine td_bipush (v := 7) dX9_all_1 (by decide) ?_
  refine cl_X9_54 rfl dX9_all_3 (Nat.le_of_ble_eq_true rfl) (c_isIn x1 7) (eR_k ?_)
  refine td_eqs (st2 := [.int (b2i (0 ≤ x1 ∧ x1 < 7))]) rfl ?_
  obtain ⟨Kt, Kf⟩ := K
  refine td_if_ne (tgt := 11) dX9_all_6 (by decide) (fun q6 => ?_) (fun q6 => ?_)
  · have K := Kt q6
    refine td_aload_n 0 dX9_all_11 rfl ?_
    obtain ⟨e12_0, K⟩ := K
    obtain ⟨e12_1, K⟩ := K
    obtain ⟨e12_2, K⟩ := K
    obtain ⟨e12_3, K⟩ := K
    refine cl_X9_129 rfl kp_0 dX9_all_12 (Nat.le_of_ble_eq_true rfl) (c_X_play e12_0 e12_1 e12_2 e12_3) ?_
    rintro _ h12 ⟨rfl, f12⟩
    have K := K h12 f12
    refine td_eqs (st2 := []) rfl ?_
    refine td_iload_n 1 dX9_all_15 rfl ?_
    obtain ⟨K0, K⟩ := K
    by_cases q0 : x1 = 0
    · have K := K0 q0
      refine td_eqs (congrArg (fun z => Value.int z :: []) q0.symm) ?_
      refine td_tsin (tgt := 56) dX9_all_16 (by decide) (by decide) rfl (by decide) ?_
      refine td_aload_n 0 dX9_all_56 rfl ?_
      refine gf_X9_35 rfl kp_0 dX9_all_57 ?_
      refine gf_X9_132 rfl kp_17 dX9_all_60 ?_
      refine gf_X9_169 rfl kp_24 dX9_all_63 ?_
      obtain ⟨e66_0, K⟩ := K
      obtain ⟨e66_1, K⟩ := K
      refine cl_X9_172 rfl dX9_all_66 (Nat.le_of_ble_eq_true rfl) (c_bitCount (h12 24 4) v e66_0 e66_1) (eR_k ?_)
      refine td_eqs (st2 := [.int (nI (fb_ct (fun i => v.testBit i) 12))]) rfl ?_
      exact td_ireturn rfl dX9_all_69 K
    obtain ⟨K1, K⟩ := K
    by_cases q1 : x1 = 1
    · have K := K1 q1
      refine td_eqs (congrArg (fun z => Value.int z :: []) q1.symm) ?_
      refine td_tsin (tgt := 70) dX9_all_16 (by decide) (by decide) rfl (by decide) ?_
      refine td_aload_n 0 dX9_all_70 rfl ?_
      refine gf_X9_35 rfl kp_0 dX9_all_71 ?_
      refine gf_X9_132 rfl kp_17 dX9_all_74 ?_
      refine td_aload_n 0 dX9_all_77 rfl ?_
      refine gf_X9_12 rfl kp_0 dX9_all_78 ?_
      refine gf_X9_80 rfl kp_1 dX9_all_81 ?_
      obtain ⟨e84_0, K⟩ := K
      obtain ⟨e84_1, K⟩ := K
      obtain ⟨e84_2, K⟩ := K
      refine cl_X9_177 rfl kp_24 dX9_all_84 (Nat.le_of_ble_eq_true rfl) (c_F_last kp_24 f n (h12 1 4) e84_0 e84_1 e84_2) (eR_k ?_)
      refine td_eqs (st2 := [.int (nI (mxN f n))]) rfl ?_
      exact td_ireturn rfl dX9_all_87 K
    obtain ⟨K2, K⟩ := K
    by_cases q2 : x1 = 2
    · have K := K2 q2
      refine td_eqs (congrArg (fun z => Value.int z :: []) q2.symm) ?_
      refine td_tsin (tgt := 88) dX9_all_16 (by decide) (by decide) rfl (by decide) ?_
      refine td_aload_n 0 dX9_all_88 rfl ?_
      refine gf_X9_35 rfl kp_0 dX9_all_89 ?_
      refine gf_X9_132 rfl kp_17 dX9_all_92 ?_
      refine td_aload_n 0 dX9_all_95 rfl ?_
      refine gf_X9_12 rfl kp_0 dX9_all_96 ?_
      obtain ⟨e99_0, K⟩ := K
      obtain ⟨e99_1, K⟩ := K
      obtain ⟨e99_2, K⟩ := K
      refine cl_X9_180 rfl kp_24 dX9_all_99 (Nat.le_of_ble_eq_true rfl) (c_F_waits kp_24 kp_1 w n e99_0 e99_1 e99_2) (eR_k ?_)
      refine td_eqs (st2 := [.int (nI (fb_sm w n))]) rfl ?_
      exact td_ireturn rfl dX9_all_102 K
    obtain ⟨K3, K⟩ := K
    by_cases q3 : x1 = 3
    · have K := K3 q3
      refine td_eqs (congrArg (fun z => Value.int z :: []) q3.symm) ?_
      refine td_tsin (tgt := 103) dX9_all_16 (by decide) (by decide) rfl (by decide) ?_
      refine td_aload_n 0 dX9_all_103 rfl ?_
      refine gf_X9_35 rfl kp_0 dX9_all_104 ?_
      refine gf_X9_184 rfl kp_17 dX9_all_107 ?_
      refine gf_X9_188 rfl kp_18 dX9_all_110 ?_
      exact td_ireturn rfl dX9_all_113 K
    obtain ⟨K4, K⟩ := K
    by_cases q4 : x1 = 4
    · have K := K4 q4
      refine td_eqs (congrArg (fun z => Value.int z :: []) q4.symm) ?_
      refine td_tsin (tgt := 114) dX9_all_16 (by decide) (by decide) rfl (by decide) ?_
      refine td_aload_n 0 dX9_all_114 rfl ?_
      refine gf_X9_35 rfl kp_0 dX9_all_115 ?_
      refine gf_X9_184 rfl kp_17 dX9_all_118 ?_
      refine gf_X9_191 rfl kp_18 dX9_all_121 ?_
      exact td_ireturn rfl dX9_all_124 K
    obtain ⟨K5, K⟩ := K
    by_cases q5 : x1 = 5
    · have K := K5 q5
      refine td_eqs (congrArg (fun z => Value.int z :: []) q5.symm) ?_
      refine td_tsin (tgt := 125) dX9_all_16 (by decide) (by decide) rfl (by decide) ?_
      refine td_aload_n 0 dX9_all_125 rfl ?_
      refine gf_X9_35 rfl kp_0 dX9_all_126 ?_
      refine gf_X9_132 rfl kp_17 dX9_all_129 ?_
      refine gf_X9_148 rfl kp_24 dX9_all_132 ?_
      obtain ⟨e135_0, K⟩ := K
      obtain ⟨e135_1, K⟩ := K
      refine cl_X9_172 rfl dX9_all_135 (Nat.le_of_ble_eq_true rfl) (c_bitCount (h12 24 5) v e135_0 e135_1) (eR_k ?_)
      refine td_eqs (st2 := [.int (nI (fb_ct (fun i => v.testBit i) 12))]) rfl ?_
      exact td_ireturn rfl dX9_all_138 K
    have K := K ⟨q0, q1, q2, q3, q4, q5⟩
    refine td_tsout (tgt := 139) dX9_all_16 (by have z : ∀ n : Nat, n < 16 → ¬ x1 = nI n → x1.toInt ≠ n := fun n hn e g => e (td_i32 g hn); have z0 := z 0 (by decide) q0; have z1 := z 1 (by decide) q1; have z2 := z 2 (by decide) q2; have z3 := z 3 (by decide) q3; have z4 := z 4 (by decide) q4; have z5 := z 5 (by decide) q5; omega) (by decide) ?_
    refine td_aload_n 0 dX9_all_139 rfl ?_
    refine gf_X9_35 rfl kp_0 dX9_all_140 ?_
    refine gf_X9_194 rfl kp_17 dX9_all_143 ?_
    exact td_ireturn rfl dX9_all_146 K
  · have K := Kf q6
    refine td_iconst (v := (-1)) dX9_all_9 (by decide) ?_
    exact td_ireturn rfl dX9_all_10 K
def cgB (g : nH) (p : Nat) : Bool := decide (p < g 1 0) && decide (sRun g 120 5 p = 1)
def rAll (g : nH) (y : Int32) : Int32 := if 0 ≤ y ∧ y < 7 then (if y = 0 then nI (fb_ct (inSt g (sRun g 120) 3) 12) else if y = 1 then nI (lastE g) else if y = 2 then nI (wE g) else if y = 3 then nI (sRun g 120 8 3) else if y = 4 then nI (sRun g 120 8 4) else if y = 5 then nI (fb_ct (cgB g) 12) else nI (sRun g 120 8 5)) else -1
theorem ct_mk (f : Nat → Bool) : fb_ct (fun i => (mk f 12).testBit i) 12 = fb_ct f 12 := fb_ct_cong (fun k hk => by rw [mk_bit]; simp [hk])
theorem D_all {G : td_G} {d : Nat} {h : td_H} {s : gS} (x1 : Int32) (I : DI s h) : td_C G (d + 6) mX9_all [.ref 0, .int x1] h (dPost (rAll s.1 x1) s h) := by
  have hn := I.1.1.1.n
  refine td_entry rfl (Nat.le_of_ble_eq_true rfl) rfl (gX9_all_0 (c := s.1) (n := s.1 1 0) (v := if x1 = 0 then mk (inSt s.1 (sRun s.1 120) 3) 12 else mk (cgB s.1) 12) (f := fun p => sRun s.1 120 3 p) (w := fun p => waitE s.1 (sRun s.1 120) p) ?_)
  by_cases ok1 : (0 ≤ x1 ∧ x1 < 7)
  · refine ⟨fun _ => ⟨I.1.1, I.1.2.1, I.1.2.2.2.2.2.2.1, I.2.1, fun h2 hh => ?_⟩, fun y => absurd ok1 (bz y)⟩
    obtain ⟨I2, F2⟩ := I.play hh.1 hh.2.1 hh.2.2.1 hh.2.2.2
    have e4 : h2 1 4 = nI (s.1 1 0) := I2.1.1.2.2.1
    obtain ⟨vA, vW, vD, vP, vO, vF⟩ := hh.2.2.1.1
    have f4 : h2 24 4 = ms (inSt s.1 (sRun s.1 120) 3) := vF.1
    have f5 : h2 24 5 = ms (cgB s.1) := vF.2.1
    unfold rAll
    rw [if_pos ok1]
    refine ⟨fun y => ?_, fun y => ⟨e4, hn, fun p hp => ⟨(vF.2.2 p (by omega)).2.2.1, end_le hn hp⟩, ?_, I2, F2⟩, fun y => ⟨e4, hn, fun p hp => ?_, ?_, I2, F2⟩, fun y => ⟨?_, I2, F2⟩, fun y => ⟨?_, I2, F2⟩, fun y => ?_, fun y => ⟨?_, I2, F2⟩⟩
    · rw [if_pos y, if_pos y]
      exact ⟨f4, mk_lt12 _, by rw [ct_mk], I2, F2⟩
    · subst y; rw [if_neg (by decide), if_pos rfl]; rfl
    · have wq := wait_q I.1.1.1 I.1.2.1 hp
      rw [show h2 (24 + 2) p = _ from (vF.2.2 p (by omega)).2.1, show h2 (1 + 2) p = _ from (I2.1.1.2.2.2 p hp).1, pk_sub wq.2, wq.1]
    · subst y; rw [if_neg (by decide), if_neg (by decide), if_pos rfl]; rfl
    · subst y; rw [if_neg (by decide), if_neg (by decide), if_neg (by decide), if_pos rfl, show h2 18 11 = _ from vD.2.2.2]
    · subst y; rw [if_neg (by decide), if_neg (by decide), if_neg (by decide), if_neg (by decide), if_pos rfl, show h2 18 9 = _ from vD.2.2.1]
    · subst y; rw [if_neg (by decide), if_neg (by decide), if_neg (by decide), if_neg (by decide), if_neg (by decide), if_neg (by decide), if_pos rfl]
      exact ⟨f5, mk_lt12 _, by rw [ct_mk], I2, F2⟩
    · rw [if_neg y.1, if_neg y.2.1, if_neg y.2.2.1, if_neg y.2.2.2.1, if_neg y.2.2.2.2.1, if_neg y.2.2.2.2.2, vA.2.2.2.2]
  · have ea : rAll s.1 x1 = -1 := by unfold rAll; rw [if_neg ok1]
    rw [ea]
    exact ⟨fun y => absurd (bnz y) ok1, fun _ => ⟨rfl, I, FM.rf h⟩⟩
/-! shared -/
set_option maxRecDepth 20000 in
set_option maxHeartbeats 4000000 in
theorem gX9_shared_0 {G : td_G} {d : Nat} {Post : td_P} {c : nH} {x1 x2 : Int32} {h : td_H} (K : ((b2i (0 ≤ x1 ∧ x1 < h 1 4)) = 0 → (Post (some (.int (-1))) h)) ∧ (¬ (b2i (0 ≤ x1 ∧ x1 < h 1 4)) = 0 → (((b2i (0 ≤ x2 ∧ x2 < h 1 4)) = 0 → (Post (some (.int (-1))) h)) ∧ (¬ (b2i (0 ≤ x2 ∧ x2 < h 1 4)) = 0 → ((¬ x1 = x2 → (dP c 1 h ∧ 12 ≤ c 5 0 ∧ dKn 18 h ∧ (h 0 8 = 0 ∨ (h 0 8 = 1 ∧ plI c h)) ∧ (∀ h30 : td_H, (FrP h h30 ∧ h30 0 8 = 1 ∧ plI c h30 ∧ dKn 18 h30) → (vp_in x1 12 ∧ (Post (some (.int ((jshr (h30 28 (ix x1)) x2) &&& 1))) h30))))) ∧ (x1 = x2 → (Post (some (.int (-1))) h))))))) : td_J G (d + 6) mX9_shared Post 0 [(0, .ref 0), (1, .int x1), (2, .int x2)] [] h := by
  refine td_aload_n 0 dX9_shared_0 rfl ?_
  refine gf_X9_12 rfl kp_0 dX9_shared_1 ?_
  refine td_iload_n 1 dX9_shared_4 rfl ?_
  refine cl_X9_88 rfl kp_1 dX9_shared_5 (Nat.le_of_ble_eq_true rfl) (c_P_has kp_1 x1) (eR_k ?_)
  refine td_eqs (st2 := [.int (b2i (0 ≤ x1 ∧ x1 < h 1 4))]) rfl ?_
  obtain ⟨Kt, Kf⟩ := K
  refine td_if_eq (tgt := 27) dX9_shared_8 (by decide) (fun q8 => ?_) (fun q8 => ?_)
  · have K := Kt q8
    refine td_iconst (v := (-1)) dX9_shared_27 (by decide) ?_
    exact td_ireturn rfl dX9_shared_28 K
  · have K := Kf q8
    refine td_aload_n 0 dX9_shared_11 rfl ?_
    refine gf_X9_12 rfl kp_0 dX9_shared_12 ?_
    refine td_iload_n 2 dX9_shared_15 rfl ?_
    refine cl_X9_88 rfl kp_1 dX9_shared_16 (Nat.le_of_ble_eq_true rfl) (c_P_has kp_1 x2) (eR_k ?_)
    refine td_eqs (st2 := [.int (b2i (0 ≤ x2 ∧ x2 < h 1 4))]) rfl ?_
    obtain ⟨Kt, Kf⟩ := K
    refine td_if_eq (tgt := 27) dX9_shared_19 (by decide) (fun q19 => ?_) (fun q19 => ?_)
    · have K := Kt q19
      refine td_iconst (v := (-1)) dX9_shared_27 (by decide) ?_
      exact td_ireturn rfl dX9_shared_28 K
    · have K := Kf q19
      refine td_iload_n 1 dX9_shared_22 rfl ?_
      refine td_iload_n 2 dX9_shared_23 rfl ?_
      obtain ⟨Kt, Kf⟩ := K
      refine td_icmp_ne (tgt := 29) dX9_shared_24 (by decide) (fun q24 => ?_) (fun q24 => ?_)
      · have K := Kt q24
        refine td_aload_n 0 dX9_shared_29 rfl ?_
        obtain ⟨e30_0, K⟩ := K
        obtain ⟨e30_1, K⟩ := K
        obtain ⟨e30_2, K⟩ := K
        obtain ⟨e30_3, K⟩ := K
        refine cl_X9_129 rfl kp_0 dX9_shared_30 (Nat.le_of_ble_eq_true rfl) (c_X_play e30_0 e30_1 e30_2 e30_3) ?_
        rintro _ h30 ⟨rfl, f30⟩
        have K := K h30 f30
        refine td_eqs (st2 := []) rfl ?_
        refine td_aload_n 0 dX9_shared_33 rfl ?_
        refine gf_X9_35 rfl kp_0 dX9_shared_34 ?_
        refine gf_X9_132 rfl kp_17 dX9_shared_37 ?_
        refine gf_X9_200 rfl kp_24 dX9_shared_40 ?_
        refine td_iload_n 1 dX9_shared_43 rfl ?_
        obtain ⟨e44, K⟩ := K
        refine td_ialdc (j := (ix x1)) kp_28 (by decide) e44 rfl dX9_shared_44 ?_
        refine td_iload_n 2 dX9_shared_45 rfl ?_
        refine td_ishr dX9_shared_46 ?_
        refine td_iconst (v := 1) dX9_shared_47 (by decide) ?_
        refine td_iand dX9_shared_48 ?_
        exact td_ireturn rfl dX9_shared_49 K
      · have K := Kf q24
        refine td_iconst (v := (-1)) dX9_shared_27 (by decide) ?_
        exact td_ireturn rfl dX9_shared_28 K
def rShr (g : nH) (x y : Int32) : Int32 := if isP g x ∧ isP g y ∧ x ≠ y then (if sRun g 120 (20 + ix x) (ix y) = 1 then 1 else 0) else -1
theorem D_shared {G : td_G} {d : Nat} {h : td_H} {s : gS} (x1 x2 : Int32) (I : DI s h) : td_C G (d + 6) mX9_shared [.ref 0, .int x1, .int x2] h (dPost (rShr s.1 x1 x2) s h) := by
  have e4 : h 1 4 = nI (s.1 1 0) := I.1.1.2.2.1
  refine td_entry rfl (Nat.le_of_ble_eq_true rfl) rfl (gX9_shared_0 (c := s.1) ?_)
  rw [e4]
  by_cases ok : isP s.1 x1 ∧ isP s.1 x2 ∧ x1 ≠ x2
  · have ea : rShr s.1 x1 x2 = (if sRun s.1 120 (20 + ix x1) (ix x2) = 1 then 1 else 0) := by unfold rShr; rw [if_pos ok]
    rw [ea]
    obtain ⟨o1, o2, o3⟩ := ok
    refine ⟨fun y => absurd o1 (bz y), fun _ => ⟨fun y => absurd o2 (bz y), fun _ => ⟨fun _ => ⟨I.1.1, I.1.2.1, I.1.2.2.2.2.2.2.1, I.2.1, fun h2 hh => ?_⟩, fun y => absurd y o3⟩⟩⟩
    obtain ⟨p, hp, rfl, ep, v12⟩ := isP_of I.1.1.1 o1
    obtain ⟨q, hq, rfl, eq, -⟩ := isP_of I.1.1.1 o2
    have hn := I.1.1.1.n
    obtain ⟨I2, F2⟩ := I.play hh.1 hh.2.1 hh.2.2.1 hh.2.2.2
    have f : h2 28 p = ms (fun q => decide (sRun s.1 120 (20 + p) q = 1)) := (hh.2.2.1.1.2.2.2.2.2.2.2 p (by omega)).2.2.2
    refine ⟨v12, ?_, I2, F2⟩
    rw [ep, eq, f, ms_bit _ (by omega)]
    simp
  · have ea : rShr s.1 x1 x2 = -1 := by unfold rShr; rw [if_neg ok]
    rw [ea]
    exact ⟨fun _ => ⟨rfl, I, FM.rf h⟩, fun y => ⟨fun _ => ⟨rfl, I, FM.rf h⟩, fun z => ⟨fun w => absurd ⟨bnz y, bnz z, w⟩ ok, fun _ => ⟨rfl, I, FM.rf h⟩⟩⟩⟩
