/-! Door: a mouth lets out -/
def sDz (c σ : nH) (s : Nat) : nH := fun a b => if a = 6 ∧ b < c 1 0 ∧ σ 0 b = 2 ∧ c 2 b = 1 - s then dazN c σ b else σ a b
def sOB (c : nH) (t : Nat) (σ : nH) (s : Nat) : nH := fun a b => if b < c 1 0 ∧ c 2 b = 1 - s then (if a = 0 ∧ goesO c σ b = true then 3 else if a = 3 ∧ goesO c σ b = true then t else if a = 6 ∧ σ 0 b = 2 then dazN c σ b else σ a b) else σ a b
theorem sDz_o (c σ : nH) (s a b : Nat) (h : a ≠ 6) : sDz c σ s a b = σ a b := by unfold sDz; rw [if_neg (fun z => h z.1)]
theorem inP_row (c σ τ : nH) (i p : Nat) (h0 : τ 0 p = σ 0 p) (h1 : τ 1 p = σ 1 p) : inP c τ i p = inP c σ i p := by unfold inP; rw [h0, h1]
theorem inSt_row (c σ τ : nH) (s p : Nat) (h0 : τ 0 p = σ 0 p) : inSt c τ s p = inSt c σ s p := by unfold inSt; rw [h0]
/-- daze is seen by 'went by' alone -/
theorem dV.daze {c σ τ : nH} {k : Nat} {h : td_H} (x : dV c σ k h) (e : ∀ a b, a ≠ 6 → τ a b = σ a b) (w : Nat → Bool) (v : Int32) (hv : v = ms w) (hw : ∀ p, p < c 1 0 → (w p = true → 2 ≤ σ 0 p) ∧ (σ 0 p = 2 → c 3 p = 5 → (w p = true ↔ 1 ≤ τ 6 p))) : dV c τ k (hu h k 9 v) := by
  obtain ⟨⟨a1, a2, a3, a4, a5⟩, -, ⟨d1, d2, d3, d4⟩, hP, hO, f1, f2, hF⟩ := x
  have r : ∀ a b, ¬ (a = k ∧ b = 9) → hu h k 9 v a b = h a b := fun a b n => by rw [hu_app, if_neg n]
  have iP : ∀ i, inP c τ i = inP c σ i := fun i => funext fun p => inP_row c σ τ i p (e 0 p (by decide)) (e 1 p (by decide))
  have iS : ∀ s, inSt c τ s = inSt c σ s := fun s => funext fun p => inSt_row c σ τ s p (e 0 p (by decide))
  have iu : ∀ i, used c τ i = used c σ i := fun i => by unfold used; rw [iP]
  have ip : pushS c τ = pushS c σ := by
    unfold pushS
    exact fb_sm_cong (fun p _ => by rw [e 0 p (by decide)])
  refine ⟨⟨?_, ?_, ?_, ?_, ?_⟩, ⟨w, ?_, fun p hp => ?_⟩, ⟨?_, ?_, ?_, ?_⟩, fun i hi => ⟨?_, ?_⟩, fun p hp h2 => ?_, ?_, ?_, fun p hp => ⟨?_, ?_, ?_, ?_⟩⟩
  · rw [r _ _ (by omega), iS]; exact a1
  · rw [r _ _ (by omega), ip]; exact a2
  · rw [r _ _ (by omega), e 8 1 (by decide)]; exact a3
  · rw [r _ _ (by omega), e 8 2 (by decide)]; exact a4
  · rw [r _ _ (by omega), e 8 5 (by decide)]; exact a5
  · rw [hu_app, if_pos ⟨rfl, rfl⟩, hv]
  · rw [e 0 p (by decide)]; exact hw p hp
  · rw [r _ _ (by omega), e 8 0 (by decide)]; exact d1
  · rw [r _ _ (by omega), iS]; exact d2
  · rw [r _ _ (by omega), e 8 4 (by decide)]; exact d3
  · rw [r _ _ (by omega), e 8 3 (by decide)]; exact d4
  · rw [r _ _ (by omega), iP]; exact (hP i hi).1
  · rw [r _ _ (by omega), iu]; exact (hP i hi).2
  · rw [e 0 p (by decide)] at h2
    rw [r _ _ (by omega), e 1 p (by decide)]
    exact hO p hp h2
  · rw [r _ _ (by omega), iS]; exact f1
  · rw [r _ _ (by omega), f2]
    exact ms_ext (fun p _ => by rw [e 5 p (by decide)])
  · rw [r _ _ (by omega), e 2 p (by decide)]; exact (hF p hp).1
  · rw [r _ _ (by omega), (hF p hp).2.1]
    unfold qE
    rw [e 0 p (by decide), e 4 p (by decide)]
  · rw [r _ _ (by omega), e 3 p (by decide)]; exact (hF p hp).2.2.1
  · rw [r _ _ (by omega), (hF p hp).2.2.2]
    exact ms_ext (fun j _ => by rw [e (20 + p) j (by omega)])
theorem dazN_lt {c σ : nH} {p : Nat} (h : σ 6 p < 3) : dazN c σ p < 3 := by
  unfold dazN
  split
  · decide
  · split
    · decide
    · exact h
theorem sOK.dz {c σ : nH} (ok : sOK c σ) (s : Nat) : sOK c (sDz c σ s) := by
  obtain ⟨a, b, e, f, g⟩ := ok
  refine ⟨by rw [sDz_o _ _ _ _ _ (by decide)]; exact a, by rw [sDz_o _ _ _ _ _ (by decide)]; exact b, by rw [sDz_o _ _ _ _ _ (by decide)]; exact e, fun i hi => ?_, fun p hp => ?_⟩
  · have : used c (sDz c σ s) i = used c σ i := by
      unfold used
      refine fb_sm_cong (fun p _ => ?_)
      rw [inP_row c σ (sDz c σ s) i p (sDz_o _ _ _ _ _ (by decide)) (sDz_o _ _ _ _ _ (by decide))]
    rw [this]; exact f i hi
  · obtain ⟨g1, g2, g3⟩ := g p hp
    rw [sDz_o _ _ _ 0 _ (by decide), sDz_o _ _ _ 1 _ (by decide)]
    refine ⟨g1, ?_, g3⟩
    unfold sDz
    split
    · exact dazN_lt g2
    · exact g2
theorem inM_at {c σ : nH} {m : Nat → Bool} {p : Nat} (hp : p < c 1 0) (h2 : σ 0 p = 2) (h4 : σ 1 p < 4) : inM c σ m p = m (σ 1 p) := by
  unfold inM exB exB exB exB exB inP
  rcases (by omega : σ 1 p = 0 ∨ σ 1 p = 1 ∨ σ 1 p = 2 ∨ σ 1 p = 3) with z | z | z | z <;> simp [hp, h2, z]
theorem inM_in {c σ : nH} {m : Nat → Bool} {p : Nat} (h : inM c σ m p = true) : p < c 1 0 ∧ σ 0 p = 2 := by
  have z : ∀ n, exB (fun i => m i && inP c σ i p) n = true → p < c 1 0 ∧ σ 0 p = 2 := by
    intro n
    induction n with
    | zero => intro y; cases y
    | succ n ih =>
      intro y
      rw [exB_succ, Bool.or_eq_true] at y
      rcases y with y | y
      · exact ih y
      · unfold inP at y
        simp at y
        exact ⟨y.2.1, y.2.2.1⟩
  exact z 4 h
/-- who is inside stands before an opened mouth only if it is dazed and goes by -/
def sOI (c σ : nH) (old s : Nat) : Prop := ∀ p, p < c 1 0 → σ 0 p = 2 → c 2 p = 1 - s → (opn c (σ 1 p) (1 - c 2 p) old = true ↔ (c 3 p = 5 ∧ σ 6 p = 1))
theorem opM_opn (c : nH) {i s t : Nat} (h : i < c 0 0) : opM (c 0 0) (c 0 1) s t i = opn c i s t := by
  unfold opM opn
  simp [h]
set_option maxRecDepth 20000 in
set_option maxHeartbeats 4000000 in
theorem gX0_letOut_0 {G : td_G} {d : Nat} {Post : td_P} {q : Nat} {S m : Nat → Bool} {Q : Nat → Nat} {c σ : nH} {k0 : Nat} {x1 x2 x3 : Int32} {h : td_H} (hk0 : td_kd k0 = 0) (K : (¬ x2 = 0 → (x2 = ms m ∧ (∀ i, m i = true → i < 4) ∧ (∀ i, i < 4 → h ((k0 + 1) + 3) i = ms (inP c σ i)) ∧ (vp_in (1 - x1) 2 ∧ (dQ c Q (k0) q (hu h k0 9 ((h k0 9) ||| ((((ms (inM c σ m)) &&& (h (k0 + 14) (ix (1 - x1)))) &&& (h k0 8)) &&& ((h k0 9) ^^^ (-1))))) ∧ dV c σ (k0) (hu h k0 9 ((h k0 9) ||| ((((ms (inM c σ m)) &&& (h (k0 + 14) (ix (1 - x1)))) &&& (h k0 8)) &&& ((h k0 9) ^^^ (-1))))) ∧ sOK c σ ∧ (((ms (inM c σ m)) &&& (h (k0 + 14) (ix (1 - x1)))) &&& (((((ms (inM c σ m)) &&& (h (k0 + 14) (ix (1 - x1)))) &&& (h k0 8)) &&& ((h k0 9) ^^^ (-1))) ^^^ (-1))) = ms S ∧ vp_in x3 120 ∧ (∀ p, S p = true → p < c 1 0 ∧ σ 0 p = 2) ∧ (∀ h60 : td_H, (FrD (k0) (hu h k0 9 ((h k0 9) ||| ((((ms (inM c σ m)) &&& (h (k0 + 14) (ix (1 - x1)))) &&& (h k0 8)) &&& ((h k0 9) ^^^ (-1))))) h60 ∧ dV c (sLv (ix x3) σ S (c 1 0)) (k0) h60) → (Post none h60)))))) ∧ (x2 = 0 → (Post none h))) : td_J G (d + 2) mX0_letOut Post 0 [(0, .ref k0), (1, .int x1), (2, .int x2), (3, .int x3)] [] h := by
  refine td_iload_n 2 dX0_letOut_0 rfl ?_
  obtain ⟨Kt, Kf⟩ := K
  refine td_if_ne (tgt := 5) dX0_letOut_1 (by decide) (fun q1 => ?_) (fun q1 => ?_)
  · have K := Kt q1
    refine td_aload_n 0 dX0_letOut_5 rfl ?_
    refine gf_X0_12 rfl hk0 dX0_letOut_6 ?_
    refine td_iload_n 2 dX0_letOut_9 rfl ?_
    obtain ⟨e10_0, K⟩ := K
    obtain ⟨e10_1, K⟩ := K
    obtain ⟨e10_2, K⟩ := K
    refine cl_X0_144 rfl (kd_0_0 hk0) dX0_letOut_10 (Nat.le_of_ble_eq_true rfl) (c_holdersOf (kd_0_0 hk0) c σ m x2 e10_0 e10_1 e10_2) (eR_k ?_)
    refine td_eqs (st2 := [.int (ms (inM c σ m))]) rfl ?_
    refine td_aload_n 0 dX0_letOut_13 rfl ?_
    refine gf_X0_32 rfl hk0 dX0_letOut_14 ?_
    refine td_iconst (v := 1) dX0_letOut_17 (by decide) ?_
    refine td_iload_n 1 dX0_letOut_18 rfl ?_
    refine td_isub dX0_letOut_19 ?_
    obtain ⟨e20, K⟩ := K
    refine td_ialdc (j := (ix (1 - x1))) (kd_0_4 hk0) (by decide) e20 rfl dX0_letOut_20 ?_
    refine td_iand dX0_letOut_21 ?_
    refine td_istore (lv2 := [(0, .ref k0), (1, .int x1), (2, .int x2), (3, .int x3), (4, .int ((ms (inM c σ m)) &&& (h (k0 + 14) (ix (1 - x1)))))]) dX0_letOut_22 (by decide) rfl ?_
    refine td_iload 4 dX0_letOut_24 rfl ?_
    refine td_aload_n 0 dX0_letOut_26 rfl ?_
    refine gf_X0_79 rfl hk0 dX0_letOut_27 ?_
    refine td_iand dX0_letOut_30 ?_
    refine td_aload_n 0 dX0_letOut_31 rfl ?_
    refine gf_X0_52 rfl hk0 dX0_letOut_32 ?_
    refine td_iconst (v := (-1)) dX0_letOut_35 (by decide) ?_
    refine td_ixor dX0_letOut_36 ?_
    refine td_iand dX0_letOut_37 ?_
    refine td_istore (lv2 := [(0, .ref k0), (1, .int x1), (2, .int x2), (3, .int x3), (4, .int ((ms (inM c σ m)) &&& (h (k0 + 14) (ix (1 - x1))))), (5, .int ((((ms (inM c σ m)) &&& (h (k0 + 14) (ix (1 - x1)))) &&& (h k0 8)) &&& ((h k0 9) ^^^ (-1))))]) dX0_letOut_38 (by decide) rfl ?_
    refine td_aload_n 0 dX0_letOut_40 rfl ?_
    refine td_dup dX0_letOut_41 rfl ?_
    refine gf_X0_52 rfl hk0 dX0_letOut_42 ?_
    refine td_iload 5 dX0_letOut_45 rfl ?_
    refine td_ior dX0_letOut_47 ?_
    refine pf_X0_52 rfl hk0 dX0_letOut_48 ?_
    refine td_aload_n 0 dX0_letOut_51 rfl ?_
    refine td_iload 4 dX0_letOut_52 rfl ?_
    refine td_iload 5 dX0_letOut_54 rfl ?_
    refine td_iconst (v := (-1)) dX0_letOut_56 (by decide) ?_
    refine td_ixor dX0_letOut_57 ?_
    refine td_iand dX0_letOut_58 ?_
    refine td_iload_n 3 dX0_letOut_59 rfl ?_
    obtain ⟨e60_0, K⟩ := K
    obtain ⟨e60_1, K⟩ := K
    obtain ⟨e60_2, K⟩ := K
    obtain ⟨e60_3, K⟩ := K
    obtain ⟨e60_4, K⟩ := K
    obtain ⟨e60_5, K⟩ := K
    refine cl_X0_147 rfl hk0 dX0_letOut_60 (Nat.le_of_ble_eq_true rfl) (c_endInside S (((ms (inM c σ m)) &&& (h (k0 + 14) (ix (1 - x1)))) &&& (((((ms (inM c σ m)) &&& (h (k0 + 14) (ix (1 - x1)))) &&& (h k0 8)) &&& ((h k0 9) ^^^ (-1))) ^^^ (-1))) x3 e60_0 e60_1 e60_2 e60_3 e60_4 e60_5) ?_
    rintro _ h60 ⟨rfl, f60⟩
    have K := K h60 f60
    refine td_eqs (st2 := []) rfl ?_
    exact td_return rfl dX0_letOut_63 K
  · have K := Kf q1
    exact td_return rfl dX0_letOut_4 K
theorem c_letOut {G : td_G} {d : Nat} {h : td_H} {k q : Nat} {c σ : nH} {Q : Nat → Nat} (old : Nat) (x1 x2 x3 : Int32) (hQ : dQ c Q k q h) (hV : dV c σ k h) (ok : sOK c σ) (hI : sOI c σ old (ix x1)) (hx1 : vp_in x1 2) (hx2 : x2 = ms (fun i => opM (c 0 0) (c 0 1) (ix x1) (σ 8 0) i && !(opM (c 0 0) (c 0 1) (ix x1) old i))) (hx3 : vp_in x3 120) : td_C G (d + 2) mX0_letOut [.ref k, .int x1, .int x2, .int x3] h (fun r h' => r = none ∧ FrD k h h' ∧ dV c (sOB c (ix x3) σ (ix x1)) k h') := by
  obtain ⟨s, hs, rfl⟩ := vp_in_of hx1 (by decide)
  obtain ⟨t, ht, rfl⟩ := vp_in_of hx3 (by decide)
  have es : ix (nI s) = s := ixn (by omega)
  have et : ix (nI t) = t := ixn (by omega)
  rw [es] at hx2 hI ⊢
  rw [et]
  have hk := hQ.1
  have hwf := hQ.2.2.2.2.1.1
  have hL := hwf.1
  have hn := hwf.n
  obtain ⟨w, hw9, hw⟩ := hV.2.1
  -- of those who want to s
  have key : ∀ p, p < c 1 0 → σ 0 p = 2 → c 2 p = 1 - s → 1 - c 2 p = s ∧ σ 1 p < 4 ∧ ((opM (c 0 0) (c 0 1) s (σ 8 0) (σ 1 p) && !(opM (c 0 0) (c 0 1) s old (σ 1 p))) = true ↔ (opn c (σ 1 p) s (σ 8 0) = true ∧ ¬ (c 3 p = 5 ∧ σ 6 p = 1))) := by
    intro p hp h2 hsd
    have e1 : 1 - c 2 p = s := by omega
    have hpl := (ok.2.2.2.2 p hp).2.2 h2
    have hI' := hI p hp h2 hsd
    rw [e1] at hI'
    refine ⟨e1, by omega, ?_⟩
    rw [opM_opn c hpl, opM_opn c hpl, Bool.and_eq_true, Bool.not_eq_true', ← Bool.not_eq_true, hI']
  have goes : ∀ p, p < c 1 0 → c 2 p = 1 - s → (goesO c σ p = true ↔ (σ 0 p = 2 ∧ opn c (σ 1 p) s (σ 8 0) = true ∧ ¬ (c 3 p = 5 ∧ σ 6 p < 2))) := by
    intro p hp hsd
    have e1 : 1 - c 2 p = s := by omega
    unfold goesO atM
    rw [e1]
    simp [and_assoc]
    intro _ _
    exact Decidable.imp_iff_not_or.symm
  have hd : dazN c σ = dazN c σ := rfl
  have fin : ∀ (S : Nat → Bool), (∀ p, p < c 1 0 → (S p = true ↔ (c 2 p = 1 - s ∧ goesO c σ p = true))) → sLv t (sDz c σ s) S (c 1 0) = sOB c t σ s := by
    intro S hS
    funext a b
    unfold sLv sOB
    by_cases hb : b < c 1 0
    · by_cases hsd : c 2 b = 1 - s
      · rw [if_pos (⟨hb, hsd⟩ : b < c 1 0 ∧ c 2 b = 1 - s)]
        by_cases hg : goesO c σ b = true
        · have hSb := (hS b hb).mpr ⟨hsd, hg⟩
          by_cases a0 : a = 0
          · subst a0; simp [hb, hSb, hg]
          · by_cases a3 : a = 3
            · subst a3; simp [hb, hSb, hg]
            · simp only [a0, a3, and_false, false_and, if_false, hg]
              unfold sDz
              by_cases a6 : a = 6
              · subst a6
                by_cases h2 : σ 0 b = 2
                · simp [hb, h2, hsd]
                · simp [h2]
              · simp [a6]
        · have hSb : ¬ S b = true := fun z => hg ((hS b hb).mp z).2
          rw [if_neg (fun z => hSb z.2.1), if_neg (fun z => hSb z.2.1), if_neg (fun z => hg z.2), if_neg (fun z => hg z.2)]
          unfold sDz
          by_cases a6 : a = 6
          · subst a6
            by_cases h2 : σ 0 b = 2
            · simp [hb, h2, hsd]
            · simp [h2]
          · simp [a6]
      · have hSb : ¬ S b = true := fun z => hsd ((hS b hb).mp z).1
        rw [if_neg (fun z => hSb z.2.1), if_neg (fun z => hSb z.2.1), if_neg (fun z => hsd z.2)]
        unfold sDz
        rw [if_neg (fun z => hsd z.2.2.2)]
    · rw [if_neg (fun z => hb z.1), if_neg (fun z => hb z.1), if_neg (fun z => hb z.1)]
      unfold sDz
      rw [if_neg (fun z => hb z.2.1)]
  subst hx2
  generalize hm : (fun i => opM (c 0 0) (c 0 1) s (σ 8 0) i && !(opM (c 0 0) (c 0 1) s old i)) = m at key ⊢
  have key2 : ∀ p, p < c 1 0 → σ 0 p = 2 → c 2 p = 1 - s → (m (σ 1 p) = true ↔ (opn c (σ 1 p) s (σ 8 0) = true ∧ ¬ (c 3 p = 5 ∧ σ 6 p = 1))) := by
    intro p hp h2 hsd
    rw [← hm]
    exact (key p hp h2 hsd).2.2
  have hm4 : ∀ i, m i = true → i < 4 := by
    intro i hi
    rw [← hm] at hi
    simp [opM] at hi
    omega
  have wd : ∀ p, p < c 1 0 → σ 0 p = 2 → c 3 p = 5 → (w p = true ↔ 1 ≤ σ 6 p) := fun p hp => (hw p hp).2
  -- who goes by
  have c8 := hQ.2.2.2.2.2.2.2.2.2.1
  have c14 := hQ.2.2.2.2.2.2.2.2.2.2.1 (1 - s) (by omega)
  have e1s : (1 : Int32) - nI s = nI (1 - s) := pk_sub (a := 1) (by omega)
  have e1x : ix (1 - nI s) = 1 - s := by rw [e1s]; exact ixn (by omega)
  have eG : (ms (inM c (sDz c σ s) m) &&& h (k + 14) (ix (1 - nI s)) &&& h k 8 &&& (h k 9 ^^^ (-1))) = ms (fun p => ((inM c (sDz c σ s) m p && sdM c (1 - s) p) && kdM c 5 p) && !(w p)) := by
    rw [e1x, c14, c8, hw9, ms_and, ms_and, ms_andn]
  have eM : ∀ p, inM c (sDz c σ s) m p = inM c σ m p := fun p => by
    unfold inM
    have z : (fun i => m i && inP c (sDz c σ s) i p) = (fun i => m i && inP c σ i p) := funext fun i => by rw [inP_row c σ (sDz c σ s) i p (sDz_o _ _ _ _ _ (by decide)) (sDz_o _ _ _ _ _ (by decide))]
    rw [z]
  have hS : ∀ p, p < c 1 0 → (((inM c (sDz c σ s) m p && sdM c (1 - s) p) && !(((inM c (sDz c σ s) m p && sdM c (1 - s) p) && kdM c 5 p) && !(w p))) = true ↔ (c 2 p = 1 - s ∧ goesO c σ p = true)) := by
    intro p hp
    rw [eM]
    by_cases hsd : c 2 p = 1 - s
    · rw [goes p hp hsd]
      by_cases h2 : σ 0 p = 2
      · have kk := key p hp h2 hsd
        have k2 := key2 p hp h2 hsd
        have ww := wd p hp h2
        rw [inM_at hp h2 kk.2.1]
        by_cases mm : m (σ 1 p) = true
        · have k3 := k2.mp mm
          by_cases k5 : c 3 p = 5
          · have w5 := ww k5
            have ne1 : ¬ σ 6 p = 1 := fun z => k3.2 ⟨k5, z⟩
            by_cases wp : w p = true
            · have := w5.mp wp
              have : ¬ σ 6 p < 2 := by omega
              simp [mm, sdM, kdM, hp, hsd, k5, wp, h2, k3.1, this]
            · have : ¬ 1 ≤ σ 6 p := fun z => wp (w5.mpr z)
              have : σ 6 p < 2 := by omega
              simp [mm, sdM, kdM, hp, hsd, k5, wp, h2, k3.1, this]
          · simp [mm, sdM, kdM, hp, hsd, k5, h2, k3.1]
        · have k3 : ¬ (opn c (σ 1 p) s (σ 8 0) = true ∧ ¬ (c 3 p = 5 ∧ σ 6 p = 1)) := fun z => mm (k2.mpr z)
          have k4 : ¬ (σ 0 p = 2 ∧ opn c (σ 1 p) s (σ 8 0) = true ∧ ¬ (c 3 p = 5 ∧ σ 6 p < 2)) := fun z => k3 ⟨z.2.1, fun y => z.2.2 ⟨y.1, by omega⟩⟩
          simp only [hsd, true_and]
          constructor
          · intro z
            rw [Bool.and_eq_true, Bool.and_eq_true] at z
            exact absurd z.1.1 mm
          · intro z; exact absurd z k4
      · constructor
        · intro z
          rw [Bool.and_eq_true, Bool.and_eq_true] at z
          exact absurd (inM_in z.1.1).2 h2
        · intro z; exact absurd z.2.1 h2
    · constructor
      · intro z
        rw [Bool.and_eq_true, Bool.and_eq_true] at z
        have := z.1.2
        unfold sdM at this
        simp [hsd] at this
      · intro z; exact absurd z.1 hsd
  have hSin : ∀ p, ((inM c (sDz c σ s) m p && sdM c (1 - s) p) && !(((inM c (sDz c σ s) m p && sdM c (1 - s) p) && kdM c 5 p) && !(w p))) = true → p < c 1 0 ∧ sDz c σ s 0 p = 2 := by
    intro p z
    rw [Bool.and_eq_true, Bool.and_eq_true] at z
    exact inM_in z.1.1
  -- the picture with 'went by' set
  have hw' : ∀ p, p < c 1 0 → (((w p || (((inM c (sDz c σ s) m p && sdM c (1 - s) p) && kdM c 5 p) && !(w p))) = true → 2 ≤ σ 0 p)) ∧ (σ 0 p = 2 → c 3 p = 5 → ((w p || (((inM c (sDz c σ s) m p && sdM c (1 - s) p) && kdM c 5 p) && !(w p))) = true ↔ 1 ≤ sDz c σ s 6 p)) := by
    intro p hp
    rw [eM]
    refine ⟨fun z => ?_, fun h2 k5 => ?_⟩
    · rw [Bool.or_eq_true] at z
      rcases z with z | z
      · exact (hw p hp).1 z
      · rw [Bool.and_eq_true, Bool.and_eq_true, Bool.and_eq_true] at z
        rw [(inM_in z.1.1.1).2]; decide
    · have w5 := wd p hp h2 k5
      have hpl := (ok.2.2.2.2 p hp).2.2 h2
      rw [inM_at hp h2 (by omega)]
      by_cases hsd : c 2 p = 1 - s
      · have k2 := key2 p hp h2 hsd
        have e6 : sDz c σ s 6 p = dazN c σ p := by unfold sDz; rw [if_pos ⟨rfl, hp, h2, hsd⟩]
        have e1 := (key p hp h2 hsd).1
        rw [e6]
        unfold dazN
        rw [e1]
        by_cases wp : w p = true
        · have := w5.mp wp
          simp only [wp, Bool.true_or, true_iff]
          split
          · omega
          · split
            · omega
            · exact this
        · have d0 : σ 6 p = 0 := by
            have : ¬ 1 ≤ σ 6 p := fun z => wp (w5.mpr z)
            omega
          by_cases no : opn c (σ 1 p) s (σ 8 0) = true
          · have mm := k2.mpr ⟨no, fun z => by omega⟩
            simp [mm, sdM, kdM, hp, hsd, k5, wp, no, d0]
          · have mm : ¬ m (σ 1 p) = true := fun z => no (k2.mp z).1
            simp [mm, wp, no, d0]
      · have e6 : sDz c σ s 6 p = σ 6 p := by unfold sDz; rw [if_neg (fun z => hsd z.2.2.2)]
        rw [e6, ← w5]
        have : sdM c (1 - s) p = false := by unfold sdM; simp [hsd]
        simp [this]
  refine td_entry rfl (Nat.le_of_ble_eq_true rfl) rfl (gX0_letOut_0 (c := c) (σ := sDz c σ s) (Q := Q) (q := q) (m := m) (S := fun p => (inM c (sDz c σ s) m p && sdM c (1 - s) p) && !(((inM c (sDz c σ s) m p && sdM c (1 - s) p) && kdM c 5 p) && !(w p))) hk ⟨fun _ => ⟨rfl, hm4, fun i hi => ?_, ?_, ?_⟩, fun z => ?_⟩)
  · rw [show k + 1 + 3 = k + 4 from rfl, (hV.2.2.2.1 i hi).1]
    refine ms_ext (fun p _ => ?_)
    rw [inP_row c σ (sDz c σ s) i p (sDz_o _ _ _ _ _ (by decide)) (sDz_o _ _ _ _ _ (by decide))]
  · rw [e1s]; exact vp_in_nI (by omega) (by decide)
  · rw [eG, hw9, ms_or]
    have fr : FrD k h (hu h k 9 (ms fun i => w i || (((inM c (sDz c σ s) m i && sdM c (1 - s) i) && kdM c 5 i) && !(w i)))) := (FrD.rf k h).put (by unfold dynP; omega) _
    refine ⟨fr.Q hQ, hV.daze (fun a b ha => sDz_o c σ s a b ha) _ _ rfl hw', ok.dz s, ?_, hx3, hSin, fun h2 hh => ⟨rfl, fr.tr hh.1, ?_⟩⟩
    · rw [e1x, c14, ms_and, ms_andn]
    · rw [← fin _ hS, ← et]
      exact hh.2
  · refine ⟨rfl, FrD.rf k h, ?_⟩
    have hm0 : ∀ i, i < 12 → m i = false := ms_0.mp z
    have hg0 : ∀ p, p < c 1 0 → inM c (sDz c σ s) m p = false := by
      intro p hp
      rw [eM]
      by_cases y : inM c σ m p = true
      · have z2 := inM_in y
        have hpl := (ok.2.2.2.2 p hp).2.2 z2.2
        rw [inM_at hp z2.2 (by omega), hm0 _ (by omega)] at y
        cases y
      · simpa using y
    have hv := hV.daze (τ := sDz c σ s) (fun a b ha => sDz_o c σ s a b ha) w (h k 9) hw9 (fun p hp => by
      have y := hw' p hp
      rw [hg0 p hp] at y
      simpa using y)
    rw [hu_id] at hv
    rw [← fin (fun _ => false) (fun p hp => by
      have y := hS p hp
      rw [hg0 p hp] at y
      simpa using y)]
    have e0 : sLv t (sDz c σ s) (fun _ => false) (c 1 0) = sDz c σ s := by funext a b; simp [sLv]
    rw [e0]
    exact hv
