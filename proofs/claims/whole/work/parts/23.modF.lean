/-! Model: all step in; folded leaves -/
theorem sIn_succ (c : nH) (t side k : Nat) (σ : nH) : sIn c t side (k + 1) σ = if fstW c σ side (c 1 0) = 12 then σ else if prt c σ (fstW c σ side (c 1 0)) = 12 then σ else sIn c t side k (sEnter c t σ (fstW c σ side (c 1 0)) (prt c σ (fstW c σ side (c 1 0)))) := rfl
/-- who has come, came by now -/
def WI (c : nH) (t : Nat) (σ : nH) : Prop := ∀ p, p < c 1 0 → σ 0 p ≠ 0 → c 4 p ≤ t
theorem fstW_st (c σ : nH) (side : Nat) : ∀ i, fstW c σ side i ≠ 12 → i ≤ 12 → σ 0 (fstW c σ side i) = 1 ∧ c 2 (fstW c σ side i) = side
  | 0, h, _ => absurd rfl h
  | i + 1, h, hi => by
    unfold fstW at h ⊢
    by_cases q : σ 0 i = 1 ∧ c 2 i = side ∧ (fstW c σ side i = 12 ∨ ahead c i (fstW c σ side i) = true)
    · rw [if_pos q]
      exact ⟨q.1, q.2.1⟩
    · rw [if_neg q] at h ⊢
      exact fstW_st c σ side i h (by omega)
theorem sEnter_0 (c : nH) (t : Nat) (σ : nH) (p i b : Nat) : sEnter c t σ p i 0 b = if b = p then 2 else σ 0 b := by
  unfold sEnter
  by_cases e : b = p
  · simp [e]
  · have : ¬ 0 = 20 + p := by omega
    simp [e, this]
theorem WI.enter {c : nH} {t : Nat} {σ : nH} (w : WI c t σ) {p i : Nat} (h : c 4 p ≤ t) : WI c t (sEnter c t σ p i) := fun q hq hs => by
  rw [sEnter_0] at hs
  by_cases e : q = p
  · rw [e]; exact h
  · rw [if_neg e] at hs
    exact w q hq hs
theorem WI.sIn {c : nH} {t side : Nat} (hn : c 1 0 ≤ 12) : ∀ k (σ : nH), WI c t σ → WI c t (sIn c t side k σ)
  | 0, _, w => w
  | k + 1, σ, w => by
    rw [sIn_succ]
    by_cases q1 : fstW c σ side (c 1 0) = 12
    · rw [if_pos q1]; exact w
    · rw [if_neg q1]
      by_cases q2 : prt c σ (fstW c σ side (c 1 0)) = 12
      · rw [if_pos q2]; exact w
      · rw [if_neg q2]
        have hf := fstW_lt c σ side (c 1 0)
        have hs := fstW_st c σ side (c 1 0) q1 hn
        exact WI.sIn hn k _ (w.enter (w _ (by omega) (by rw [hs.1]; decide)))
/-- how many wait -/
def nWt (c σ : nH) : Nat := fb_ct (fun p => decide (σ 0 p = 1)) (c 1 0)
theorem nWt_enter (c : nH) (t : Nat) (σ : nH) (p i : Nat) (hp : p < c 1 0) (h : σ 0 p = 1) : nWt c (sEnter c t σ p i) + 1 = nWt c σ := by
  unfold nWt
  have e : fb_ct (fun q => decide (sEnter c t σ p i 0 q = 1)) (c 1 0) = fb_ct (fun q => if q = p then false else decide (σ 0 q = 1)) (c 1 0) := fb_ct_cong (fun q _ => by
    rw [sEnter_0]
    by_cases z : q = p <;> simp [z])
  rw [e]
  have z := fb_ct_upd (fun q => decide (σ 0 q = 1)) false hp
  simp only [h, decide_true, if_true, if_false, Bool.false_eq_true, Nat.add_zero] at z
  exact z
theorem fstW_none {c σ : nH} {side : Nat} : ∀ {i : Nat}, (∀ p, p < i → σ 0 p ≠ 1) → fstW c σ side i = 12
  | 0, _ => rfl
  | i + 1, h => by
    unfold fstW
    rw [if_neg (fun z => h i (by omega) z.1)]
    exact fstW_none (fun p hp => h p (by omega))
/-- more rounds than wait make no difference -/
theorem sIn_more (c : nH) (t side : Nat) (hn : c 1 0 ≤ 12) : ∀ k (σ : nH), nWt c σ ≤ k → ∀ k', k ≤ k' → sIn c t side k' σ = sIn c t side k σ
  | 0, σ, h, 0, _ => rfl
  | 0, σ, h, k' + 1, _ => by
    rw [sIn_succ, if_pos (fstW_none (fun p hp => by
      have z := fb_ct_zero.mp (Nat.le_zero.mp h) p hp
      simpa using z))]
    rfl
  | k + 1, σ, h, 0, hk => absurd hk (by omega)
  | k + 1, σ, h, k' + 1, hk => by
    rw [sIn_succ, sIn_succ]
    by_cases q1 : fstW c σ side (c 1 0) = 12
    · rw [if_pos q1, if_pos q1]
    · rw [if_neg q1, if_neg q1]
      by_cases q2 : prt c σ (fstW c σ side (c 1 0)) = 12
      · rw [if_pos q2, if_pos q2]
      · rw [if_neg q2, if_neg q2]
        have hf := fstW_lt c σ side (c 1 0)
        have hs := fstW_st c σ side (c 1 0) q1 hn
        have hw := nWt_enter c t σ (fstW c σ side (c 1 0)) (prt c σ (fstW c σ side (c 1 0))) (by omega) hs.1
        exact sIn_more c t side hn k _ (by omega) k' (by omega)
theorem nWt_le (c σ : nH) (hn : c 1 0 ≤ 12) : nWt c σ ≤ 12 := Nat.le_trans (fb_ct_le _ _) hn
theorem prt_lt (c σ : nH) (p : Nat) : prt c σ p = 12 ∨ prt c σ p < c 0 0 := by
  unfold prt
  split
  · exact Or.inl rfl
  · exact prtF_lt c σ p (c 0 0)
theorem n4_in {v : Nat} (h : ¬ n4 v < 0) (h2 : v = 12 ∨ v < 12) : n4 v = nI v ∧ v < 12 := by
  have z : v ≠ 12 := fun y => h ((n4_neg h2).mpr y)
  exact ⟨by unfold n4; rw [if_neg z], by omega⟩
set_option maxRecDepth 20000 in
set_option maxHeartbeats 4000000 in
theorem gX10_allStepIn_0 {G : td_G} {d : Nat} {Post : td_P} {x1 : Int32} {h : td_H} (K : td_J G (d + 4) mX10_allStepIn Post 2 [(0, .ref 85), (1, .int x1), (2, .int 0)] [] h) : td_J G (d + 4) mX10_allStepIn Post 0 [(0, .ref 85), (1, .int x1)] [] h := by
  refine td_iconst (v := 0) dX10_allStepIn_0 (by decide) ?_
  refine td_istore_n (lv2 := [(0, .ref 85), (1, .int x1), (2, .int 0)]) dX10_allStepIn_1 (by decide) rfl ?_
  exact K
set_option maxRecDepth 20000 in
set_option maxHeartbeats 4000000 in
theorem gX10_allStepIn_2 {G : td_G} {d : Nat} {Post : td_P} {c σ : nH} {x1 x2 : Int32} {h : td_H} (K : (2 ≤ x2 → (Post none h)) ∧ (¬ 2 ≤ x2 → (rmC c h ∧ rmS σ h ∧ vp_in x2 2 ∧ (td_J G (d + 4) mX10_allStepIn Post 13 [(0, .ref 85), (1, .int x1), (2, .int x2), (3, .int (n4 (fstW c σ (ix x2) (c 1 0))))] [] h)))) : td_J G (d + 4) mX10_allStepIn Post 2 [(0, .ref 85), (1, .int x1), (2, .int x2)] [] h := by
  refine td_iload_n 2 dX10_allStepIn_2 rfl ?_
  refine td_iconst (v := 2) dX10_allStepIn_3 (by decide) ?_
  obtain ⟨Kt, Kf⟩ := K
  refine td_icmp_ge (tgt := 51) dX10_allStepIn_4 (by decide) (fun q4 => ?_) (fun q4 => ?_)
  · have K := Kt q4
    exact td_return rfl dX10_allStepIn_51 K
  · have K := Kf q4
    refine td_aload_n 0 dX10_allStepIn_7 rfl ?_
    refine td_iload_n 2 dX10_allStepIn_8 rfl ?_
    obtain ⟨e9_0, K⟩ := K
    obtain ⟨e9_1, K⟩ := K
    obtain ⟨e9_2, K⟩ := K
    refine cl_X10_195 rfl kp_85 dX10_allStepIn_9 (Nat.le_of_ble_eq_true rfl) (c_firstAt c σ x2 e9_0 e9_1 e9_2) (eR_k ?_)
    refine td_eqs (st2 := [.int (n4 (fstW c σ (ix x2) (c 1 0)))]) rfl ?_
    refine td_istore_n (lv2 := [(0, .ref 85), (1, .int x1), (2, .int x2), (3, .int (n4 (fstW c σ (ix x2) (c 1 0))))]) dX10_allStepIn_12 (by decide) rfl ?_
    exact K
set_option maxRecDepth 20000 in
set_option maxHeartbeats 4000000 in
theorem gX10_allStepIn_13 {G : td_G} {d : Nat} {Post : td_P} {c σ σ33 : nH} {x1 x2 x3 : Int32} {h : td_H} (K : (x3 < 0 → td_J G (d + 4) mX10_allStepIn Post 2 [(0, .ref 85), (1, .int x1), (2, .int (x2 + 1))] [] h) ∧ (¬ x3 < 0 → (rmC c h ∧ rmS σ h ∧ vp_in x3 12 ∧ ix x3 < c 1 0 ∧ (((n4 (prt c σ (ix x3))) < 0 → td_J G (d + 4) mX10_allStepIn Post 2 [(0, .ref 85), (1, .int x1), (2, .int (x2 + 1))] [] h) ∧ (¬ (n4 (prt c σ (ix x3))) < 0 → (vp_in (n4 (prt c σ (ix x3))) 4 ∧ vp_in x1 120 ∧ c 4 (ix x3) ≤ ix x1 ∧ (∀ h33 : td_H, (Fr h h33 ∧ rmS (sEnter c (ix x1) σ (ix x3) (ix (n4 (prt c σ (ix x3))))) h33) → (rmC c h33 ∧ rmS σ33 h33 ∧ vp_in x2 2 ∧ (td_J G (d + 4) mX10_allStepIn Post 13 [(0, .ref 85), (1, .int x1), (2, .int x2), (3, .int (n4 (fstW c σ33 (ix x2) (c 1 0))))] [] h33))))))))) : td_J G (d + 4) mX10_allStepIn Post 13 [(0, .ref 85), (1, .int x1), (2, .int x2), (3, .int x3)] [] h := by
  refine td_iload_n 3 dX10_allStepIn_13 rfl ?_
  obtain ⟨Kt, Kf⟩ := K
  refine td_if_lt (tgt := 45) dX10_allStepIn_14 (by decide) (fun q14 => ?_) (fun q14 => ?_)
  · have K := Kt q14
    refine td_iinc 2 (v := x2 + 1) (lv2 := [(0, .ref 85), (1, .int x1), (2, .int (x2 + 1)), (3, .int x3)]) dX10_allStepIn_45 rfl (congrArg (x2 + ·) (by decide)) (by decide) rfl ?_
    refine td_goto (tgt := 2) dX10_allStepIn_48 (by decide) ?_
    refine td_drop (lv2 := [(0, .ref 85), (1, .int x1), (2, .int (x2 + 1))]) [0, 1, 2] rfl ?_
    exact K
  · have K := Kf q14
    refine td_aload_n 0 dX10_allStepIn_17 rfl ?_
    refine td_iload_n 3 dX10_allStepIn_18 rfl ?_
    obtain ⟨e19_0, K⟩ := K
    obtain ⟨e19_1, K⟩ := K
    obtain ⟨e19_2, K⟩ := K
    obtain ⟨e19_3, K⟩ := K
    refine cl_X10_198 rfl kp_85 dX10_allStepIn_19 (Nat.le_of_ble_eq_true rfl) (c_partFor c σ x3 e19_0 e19_1 e19_2 e19_3) (eR_k ?_)
    refine td_eqs (st2 := [.int (n4 (prt c σ (ix x3)))]) rfl ?_
    obtain ⟨Kt, Kf⟩ := K
    refine td_if_lt (tgt := 45) dX10_allStepIn_22 (by decide) (fun q22 => ?_) (fun q22 => ?_)
    · have K := Kt q22
      refine td_iinc 2 (v := x2 + 1) (lv2 := [(0, .ref 85), (1, .int x1), (2, .int (x2 + 1)), (3, .int x3)]) dX10_allStepIn_45 rfl (congrArg (x2 + ·) (by decide)) (by decide) rfl ?_
      refine td_goto (tgt := 2) dX10_allStepIn_48 (by decide) ?_
      refine td_drop (lv2 := [(0, .ref 85), (1, .int x1), (2, .int (x2 + 1))]) [0, 1, 2] rfl ?_
      exact K
    · have K := Kf q22
      refine td_aload_n 0 dX10_allStepIn_25 rfl ?_
      refine td_iload_n 3 dX10_allStepIn_26 rfl ?_
      refine td_aload_n 0 dX10_allStepIn_27 rfl ?_
      refine td_iload_n 3 dX10_allStepIn_28 rfl ?_
      refine cl_X10_198 rfl kp_85 dX10_allStepIn_29 (Nat.le_of_ble_eq_true rfl) (c_partFor c σ x3 e19_0 e19_1 e19_2 e19_3) (eR_k ?_)
      refine td_eqs (st2 := [.int (n4 (prt c σ (ix x3))), .int x3, .ref 85]) rfl ?_
      refine td_iload_n 1 dX10_allStepIn_32 rfl ?_
      obtain ⟨e33_4, K⟩ := K
      obtain ⟨e33_5, K⟩ := K
      obtain ⟨e33_6, K⟩ := K
      refine cl_X10_201 rfl kp_85 dX10_allStepIn_33 (Nat.le_of_ble_eq_true rfl) (c_stepIn c σ x3 (n4 (prt c σ (ix x3))) x1 e19_0 e19_1 e19_2 e19_3 e33_4 e33_5 e33_6) ?_
      rintro _ h33 ⟨rfl, f33⟩
      have K := K h33 f33
      refine td_eqs (st2 := []) rfl ?_
      refine td_aload_n 0 dX10_allStepIn_36 rfl ?_
      refine td_iload_n 2 dX10_allStepIn_37 rfl ?_
      obtain ⟨e38_0, K⟩ := K
      obtain ⟨e38_1, K⟩ := K
      obtain ⟨e38_2, K⟩ := K
      refine cl_X10_195 rfl kp_85 dX10_allStepIn_38 (Nat.le_of_ble_eq_true rfl) (c_firstAt c σ33 x2 e38_0 e38_1 e38_2) (eR_k ?_)
      refine td_eqs (st2 := [.int (n4 (fstW c σ33 (ix x2) (c 1 0)))]) rfl ?_
      refine td_istore_n (lv2 := [(0, .ref 85), (1, .int x1), (2, .int x2), (3, .int (n4 (fstW c σ33 (ix x2) (c 1 0))))]) dX10_allStepIn_41 (by decide) rfl ?_
      refine td_goto (tgt := 13) dX10_allStepIn_42 (by decide) ?_
      exact K
theorem c_allStepIn {G : td_G} {d : Nat} {h : td_H} (c σ : nH) (x : Int32) (hc : rmC c h) (hs : rmS σ h) (hx : vp_in x 120) (hw : WI c (ix x) σ) : td_C G (d + 4) mX10_allStepIn [.ref 85, .int x] h (fun r h' => r = none ∧ Fr h h' ∧ rmS (sIn c (ix x) 1 12 (sIn c (ix x) 0 12 σ)) h') := by
  obtain ⟨t, ht, rfl⟩ := vp_in_of hx (by decide)
  have et : ix (nI t) = t := ixn (by omega)
  rw [et] at hw ⊢
  have hn := hc.1.n
  have hL := hc.1.1
  -- one side
  have side : ∀ (s : Nat), s < 2 → ∀ (τ : nH) (h1 : td_H), Fr h h1 → rmS τ h1 → WI c t τ → (∀ h2, Fr h h2 → rmS (sIn c t s 12 τ) h2 → td_J G (d + 4) mX10_allStepIn (fun r h' => r = none ∧ Fr h h' ∧ rmS (sIn c t 1 12 (sIn c t 0 12 σ)) h') 2 [(0, .ref 85), (1, .int (nI t)), (2, .int (nI (s + 1)))] [] h2) →
      td_J G (d + 4) mX10_allStepIn (fun r h' => r = none ∧ Fr h h' ∧ rmS (sIn c t 1 12 (sIn c t 0 12 σ)) h') 2 [(0, .ref 85), (1, .int (nI t)), (2, .int (nI s))] [] h1 := by
    intro s hs2 τ h1 hF hS hW kk
    have es : ix (nI s) = s := ixn (by omega)
    have vs : vp_in (nI s) 2 := vp_in_nI hs2 (by decide)
    refine gX10_allStepIn_2 (c := c) (σ := τ) ⟨fun q => absurd (le_of (a := 2) q) (by omega), fun _ => ⟨hF.C hc, hS, vs, ?_⟩⟩
    rw [es]
    -- the while
    have wh : ∀ k (τ : nH) (h1 : td_H), nWt c τ ≤ k → Fr h h1 → rmS τ h1 → WI c t τ → (∀ h2, Fr h h2 → rmS (sIn c t s k τ) h2 → td_J G (d + 4) mX10_allStepIn (fun r h' => r = none ∧ Fr h h' ∧ rmS (sIn c t 1 12 (sIn c t 0 12 σ)) h') 2 [(0, .ref 85), (1, .int (nI t)), (2, .int (nI (s + 1)))] [] h2) →
        td_J G (d + 4) mX10_allStepIn (fun r h' => r = none ∧ Fr h h' ∧ rmS (sIn c t 1 12 (sIn c t 0 12 σ)) h') 13 [(0, .ref 85), (1, .int (nI t)), (2, .int (nI s)), (3, .int (n4 (fstW c τ s (c 1 0))))] [] h1 := by
      intro k
      induction k with
      | zero =>
        intro τ h1 hk hF hS hW kk
        have e : fstW c τ s (c 1 0) = 12 := fstW_none (fun p hp => by
          have z := fb_ct_zero.mp (Nat.le_zero.mp hk) p hp
          simpa using z)
        rw [e]
        refine gX10_allStepIn_13 (c := c) (σ := τ) (σ33 := τ) ⟨fun _ => td_to (kk h1 hF hS) (by rw [nI_1]) rfl rfl, fun q => absurd (by decide) q⟩
      | succ k ih =>
        intro τ h1 hk hF hS hW kk
        have hf := fstW_lt c τ s (c 1 0)
        have hf12 : fstW c τ s (c 1 0) = 12 ∨ fstW c τ s (c 1 0) < 12 := by omega
        rw [sIn_succ] at kk
        refine gX10_allStepIn_13 (c := c) (σ := τ) (σ33 := sEnter c t τ (fstW c τ s (c 1 0)) (prt c τ (fstW c τ s (c 1 0)))) ⟨fun q => ?_, fun q => ?_⟩
        · have e := (n4_neg hf12).mp q
          rw [if_pos e] at kk
          exact td_to (kk h1 hF hS) (by rw [nI_1]) rfl rfl
        · obtain ⟨e1, e2⟩ := n4_in q hf12
          have ne : fstW c τ s (c 1 0) ≠ 12 := by omega
          have hst := fstW_st c τ s (c 1 0) ne hn
          have hfn : fstW c τ s (c 1 0) < c 1 0 := by omega
          rw [if_neg ne] at kk
          have ef : ix (nI (fstW c τ s (c 1 0))) = fstW c τ s (c 1 0) := ixn (by omega)
          have hpl := prt_lt c τ (fstW c τ s (c 1 0))
          have hp12 : prt c τ (fstW c τ s (c 1 0)) = 12 ∨ prt c τ (fstW c τ s (c 1 0)) < 12 := by omega
          rw [e1, ef]
          refine ⟨hF.C hc, hS, vp_in_nI e2 (by decide), hfn, fun q2 => ?_, fun q2 => ?_⟩
          · have e := (n4_neg hp12).mp q2
            rw [if_pos e] at kk
            exact td_to (kk h1 hF hS) (by rw [nI_1]) rfl rfl
          · obtain ⟨e3, e4⟩ := n4_in q2 hp12
            have ne2 : prt c τ (fstW c τ s (c 1 0)) ≠ 12 := by omega
            rw [if_neg ne2] at kk
            have hcm : c 4 (fstW c τ s (c 1 0)) ≤ t := hW _ hfn (by rw [hst.1]; decide)
            have eq : ix (nI (prt c τ (fstW c τ s (c 1 0)))) = prt c τ (fstW c τ s (c 1 0)) := ixn (by omega)
            rw [e3, et, eq]
            refine ⟨vp_in_nI (by omega) (by decide), hx, hcm, fun h2 hh2 => ⟨(hF.tr hh2.1).C hc, hh2.2, vs, ?_⟩⟩
            have hw := nWt_enter c t τ (fstW c τ s (c 1 0)) (prt c τ (fstW c τ s (c 1 0))) hfn hst.1
            rw [es]
            exact ih _ h2 (by omega) (hF.tr hh2.1) hh2.2 (hW.enter hcm) kk
    exact wh 12 τ h1 (nWt_le c τ hn) hF hS hW kk
  refine td_entry rfl (Nat.le_of_ble_eq_true rfl) rfl (gX10_allStepIn_0 ?_)
  refine side 0 (by decide) σ h (Fr.rf h) hs hw (fun h2 hF2 hS2 => ?_)
  refine side 1 (by decide) _ h2 hF2 hS2 (WI.sIn hn 12 σ hw) (fun h3 hF3 hS3 => ?_)
  exact gX10_allStepIn_2 (c := c) (σ := σ) ⟨fun _ => ⟨rfl, hF3, hS3⟩, fun q => absurd (by decide) q⟩
theorem sAllOut_s (t : Nat) (σ : nH) (k : Nat) : sAllOut t σ (k + 1) = if σ 0 k = 2 then nu (nu (sAllOut t σ k) 0 k 3) 3 k t else sAllOut t σ k := by
  funext a b
  by_cases q : σ 0 k = 2
  · rw [if_pos q]
    simp only [nu_app, sAllOut]
    by_cases e : b = k
    · subst e
      by_cases a0 : a = 0
      · subst a0; simp [q]
      · by_cases a3 : a = 3
        · subst a3; simp [q]
        · simp [a0, a3]
    · have e2 : (b < k + 1) = (b < k) := by apply propext; omega
      simp [e, e2]
  · rw [if_neg q]
    simp only [sAllOut]
    by_cases e : b = k
    · subst e
      simp [q]
    · have e2 : (b < k + 1) = (b < k) := by apply propext; omega
      simp [e2]
theorem sAllOut_at (t : Nat) (σ : nH) (k a : Nat) : sAllOut t σ k a k = σ a k := by simp [sAllOut]
theorem WI.of {c : nH} {t : Nat} {σ τ : nH} (w : WI c t σ) (h : ∀ p, τ 0 p ≠ 0 → σ 0 p ≠ 0) : WI c t τ := fun p hp hs => w p hp (h p hs)
theorem WI.walk {c : nH} {t side : Nat} {σ : nH} (hn : c 1 0 ≤ 12) (w : WI c t σ) : WI c t (sWalk c t side σ) := by
  unfold sWalk
  by_cases q : fstW c σ side (c 1 0) = 12
  · rw [if_pos q]; exact w
  · rw [if_neg q]
    refine w.of (fun p hp => ?_)
    simp only [sThru, nu_app] at hp
    by_cases e : p = fstW c σ side (c 1 0)
    · rw [e, (fstW_st c σ side (c 1 0) q hn).1]; decide
    · simpa [e] using hp
/-- the walks through folded leaves, one by one -/
def sWks (c : nH) (t : Nat) (σ : nH) : Nat → nH
  | 0 => σ
  | k + 1 => sWalk c t (k / 2) (sWks c t σ k)
set_option maxRecDepth 20000 in
set_option maxHeartbeats 4000000 in
theorem gX10_goFolded_0 {G : td_G} {d : Nat} {Post : td_P} {x1 : Int32} {h : td_H} (K : td_J G (d + 2) mX10_goFolded Post 12 [(0, .ref 85), (1, .int x1), (2, .int 0)] [] (hu (hu h 85 18 0) 85 19 0)) : td_J G (d + 2) mX10_goFolded Post 0 [(0, .ref 85), (1, .int x1)] [] h := by
  refine td_aload_n 0 dX10_goFolded_0 rfl ?_
  refine td_iconst (v := 0) dX10_goFolded_1 (by decide) ?_
  refine pf_X10_173 rfl kp_85 dX10_goFolded_2 ?_
  refine td_aload_n 0 dX10_goFolded_5 rfl ?_
  refine td_iconst (v := 0) dX10_goFolded_6 (by decide) ?_
  refine pf_X10_170 rfl kp_85 dX10_goFolded_7 ?_
  refine td_iconst (v := 0) dX10_goFolded_10 (by decide) ?_
  refine td_istore_n (lv2 := [(0, .ref 85), (1, .int x1), (2, .int 0)]) dX10_goFolded_11 (by decide) rfl ?_
  exact K
set_option maxRecDepth 20000 in
set_option maxHeartbeats 4000000 in
theorem gX10_goFolded_12 {G : td_G} {d : Nat} {Post : td_P} {x1 x2 : Int32} {h : td_H} (K : ((h 86 9) ≤ x2 → td_J G (d + 2) mX10_goFolded Post 47 [(0, .ref 85), (1, .int x1), (2, .int 0)] [] h) ∧ (¬ (h 86 9) ≤ x2 → (vp_in x2 12 ∧ (td_J G (d + 2) mX10_goFolded Post 12 [(0, .ref 85), (1, .int x1), (2, .int (x2 + 1))] [] (if (h 91 (ix x2)) = 2 then (hu (hu h 91 (ix x2) 3) 94 (ix x2) x1) else h : td_H))))) : td_J G (d + 2) mX10_goFolded Post 12 [(0, .ref 85), (1, .int x1), (2, .int x2)] [] h := by
  refine td_iload_n 2 dX10_goFolded_12 rfl ?_
  refine td_aload_n 0 dX10_goFolded_13 rfl ?_
  refine gf_X10_7 rfl kp_85 dX10_goFolded_14 ?_
  refine td_bipush (v := 9) dX10_goFolded_17 (by decide) ?_
  refine td_ialdc (j := 9) kp_86 (by decide) (by unfold vp_in; decide) (by decide) dX10_goFolded_19 ?_
  obtain ⟨Kt, Kf⟩ := K
  refine td_icmp_ge (tgt := 45) dX10_goFolded_20 (by decide) (fun q20 => ?_) (fun q20 => ?_)
  · have K := Kt q20
    refine td_iconst (v := 0) dX10_goFolded_45 (by decide) ?_
    refine td_istore_n (lv2 := [(0, .ref 85), (1, .int x1), (2, .int 0)]) dX10_goFolded_46 (by decide) rfl ?_
    exact K
  · have K := Kf q20
    refine td_aload_n 0 dX10_goFolded_23 rfl ?_
    refine gf_X10_25 rfl kp_85 dX10_goFolded_24 ?_
    refine td_iload_n 2 dX10_goFolded_27 rfl ?_
    obtain ⟨e28, K⟩ := K
    refine td_ialdc (j := (ix x2)) kp_91 (by decide) e28 rfl dX10_goFolded_28 ?_
    refine td_iconst (v := 2) dX10_goFolded_29 (by decide) ?_
    have KJ39 : td_J G (d + 2) mX10_goFolded Post 39 [(0, .ref 85), (1, .int x1), (2, .int x2)] [] (if (h 91 (ix x2)) = 2 then (hu (hu h 91 (ix x2) 3) 94 (ix x2) x1) else h : td_H) := by
      refine td_iinc 2 (v := x2 + 1) (lv2 := [(0, .ref 85), (1, .int x1), (2, .int (x2 + 1))]) dX10_goFolded_39 rfl (congrArg (x2 + ·) (by decide)) (by decide) rfl ?_
      refine td_goto (tgt := 12) dX10_goFolded_42 (by decide) ?_
      exact K
    refine td_icmp_ne (tgt := 39) dX10_goFolded_30 (by decide) (fun q30 => ?_) (fun q30 => ?_)
    · skip
      exact td_to KJ39 rfl rfl (by rw [show (if (h 91 (ix x2)) = 2 then (hu (hu h 91 (ix x2) 3) 94 (ix x2) x1) else h : td_H) = _ from if_neg q30])
    · skip
      refine td_aload_n 0 dX10_goFolded_33 rfl ?_
      refine td_iload_n 2 dX10_goFolded_34 rfl ?_
      refine td_iload_n 1 dX10_goFolded_35 rfl ?_
      refine cl_X10_182 rfl kp_85 dX10_goFolded_36 (Nat.le_of_ble_eq_true rfl) (c_through x2 x1 e28) (eV_k ?_)
      refine td_eqs (st2 := []) rfl ?_
      exact td_to KJ39 rfl rfl (by rw [show (if (h 91 (ix x2)) = 2 then (hu (hu h 91 (ix x2) 3) 94 (ix x2) x1) else h : td_H) = _ from if_pos q30])
set_option maxRecDepth 20000 in
set_option maxHeartbeats 4000000 in
theorem gX10_goFolded_47 {G : td_G} {d : Nat} {Post : td_P} {c σ : nH} {x1 x2 : Int32} {h : td_H} (K : (4 ≤ x2 → (Post none h)) ∧ (¬ 4 ≤ x2 → (rmC c h ∧ rmS σ h ∧ vp_in (x2 / 2) 2 ∧ ((¬ (n4 (fstW c σ (ix (x2 / 2)) (c 1 0))) < 0 → (vp_in (n4 (fstW c σ (ix (x2 / 2)) (c 1 0))) 12 ∧ True)) ∧ (td_J G (d + 2) mX10_goFolded Post 47 [(0, .ref 85), (1, .int x1), (2, .int (x2 + 1))] [] (if (n4 (fstW c σ (ix (x2 / 2)) (c 1 0))) < 0 then h else (hu (hu (hu h 95 (ix (n4 (fstW c σ (ix (x2 / 2)) (c 1 0)))) (x1 - (h 88 (ix (n4 (fstW c σ (ix (x2 / 2)) (c 1 0))))))) 91 (ix (n4 (fstW c σ (ix (x2 / 2)) (c 1 0)))) 3) 94 (ix (n4 (fstW c σ (ix (x2 / 2)) (c 1 0)))) x1) : td_H)))))) : td_J G (d + 2) mX10_goFolded Post 47 [(0, .ref 85), (1, .int x1), (2, .int x2)] [] h := by
  refine td_iload_n 2 dX10_goFolded_47 rfl ?_
  refine td_iconst (v := 4) dX10_goFolded_48 (by decide) ?_
  obtain ⟨Kt, Kf⟩ := K
  refine td_icmp_ge (tgt := 90) dX10_goFolded_49 (by decide) (fun q49 => ?_) (fun q49 => ?_)
  · have K := Kt q49
    exact td_return rfl dX10_goFolded_90 K
  · have K := Kf q49
    refine td_aload_n 0 dX10_goFolded_52 rfl ?_
    refine td_iload_n 2 dX10_goFolded_53 rfl ?_
    refine td_iconst (v := 2) dX10_goFolded_54 (by decide) ?_
    refine td_idiv dX10_goFolded_55 (by decide) ?_
    obtain ⟨e56_0, K⟩ := K
    obtain ⟨e56_1, K⟩ := K
    obtain ⟨e56_2, K⟩ := K
    refine cl_X10_195 rfl kp_85 dX10_goFolded_56 (Nat.le_of_ble_eq_true rfl) (c_firstAt c σ (x2 / 2) e56_0 e56_1 e56_2) (eR_k ?_)
    refine td_eqs (st2 := [.int (n4 (fstW c σ (ix (x2 / 2)) (c 1 0)))]) rfl ?_
    refine td_istore_n (lv2 := [(0, .ref 85), (1, .int x1), (2, .int x2), (3, .int (n4 (fstW c σ (ix (x2 / 2)) (c 1 0))))]) dX10_goFolded_59 (by decide) rfl ?_
    refine td_iload_n 3 dX10_goFolded_60 rfl ?_
    obtain ⟨Ks61, K⟩ := K
    have KJ84 : td_J G (d + 2) mX10_goFolded Post 84 [(0, .ref 85), (1, .int x1), (2, .int x2), (3, .int (n4 (fstW c σ (ix (x2 / 2)) (c 1 0))))] [] (if (n4 (fstW c σ (ix (x2 / 2)) (c 1 0))) < 0 then h else (hu (hu (hu h 95 (ix (n4 (fstW c σ (ix (x2 / 2)) (c 1 0)))) (x1 - (h 88 (ix (n4 (fstW c σ (ix (x2 / 2)) (c 1 0))))))) 91 (ix (n4 (fstW c σ (ix (x2 / 2)) (c 1 0)))) 3) 94 (ix (n4 (fstW c σ (ix (x2 / 2)) (c 1 0)))) x1) : td_H) := by
      refine td_iinc 2 (v := x2 + 1) (lv2 := [(0, .ref 85), (1, .int x1), (2, .int (x2 + 1)), (3, .int (n4 (fstW c σ (ix (x2 / 2)) (c 1 0))))]) dX10_goFolded_84 rfl (congrArg (x2 + ·) (by decide)) (by decide) rfl ?_
      refine td_goto (tgt := 47) dX10_goFolded_87 (by decide) ?_
      refine td_drop (lv2 := [(0, .ref 85), (1, .int x1), (2, .int (x2 + 1))]) [0, 1, 2] rfl ?_
      exact K
    refine td_if_lt (tgt := 84) dX10_goFolded_61 (by decide) (fun q61 => ?_) (fun q61 => ?_)
    · skip
      exact td_to KJ84 rfl rfl (by rw [show (if (n4 (fstW c σ (ix (x2 / 2)) (c 1 0))) < 0 then h else (hu (hu (hu h 95 (ix (n4 (fstW c σ (ix (x2 / 2)) (c 1 0)))) (x1 - (h 88 (ix (n4 (fstW c σ (ix (x2 / 2)) (c 1 0))))))) 91 (ix (n4 (fstW c σ (ix (x2 / 2)) (c 1 0)))) 3) 94 (ix (n4 (fstW c σ (ix (x2 / 2)) (c 1 0)))) x1) : td_H) = _ from if_pos q61])
    · have K := Ks61 q61
      refine td_aload_n 0 dX10_goFolded_64 rfl ?_
      refine gf_X10_37 rfl kp_85 dX10_goFolded_65 ?_
      refine td_iload_n 3 dX10_goFolded_68 rfl ?_
      refine td_iload_n 1 dX10_goFolded_69 rfl ?_
      refine td_aload_n 0 dX10_goFolded_70 rfl ?_
      refine gf_X10_16 rfl kp_85 dX10_goFolded_71 ?_
      refine td_iload_n 3 dX10_goFolded_74 rfl ?_
      obtain ⟨e75, K⟩ := K
      refine td_ialdc (j := (ix (n4 (fstW c σ (ix (x2 / 2)) (c 1 0))))) kp_88 (by decide) e75 rfl dX10_goFolded_75 ?_
      refine td_isub dX10_goFolded_76 ?_
      refine td_iastc (j := (ix (n4 (fstW c σ (ix (x2 / 2)) (c 1 0))))) kp_95 (by decide) e75 rfl dX10_goFolded_77 ?_
      refine td_aload_n 0 dX10_goFolded_78 rfl ?_
      refine td_iload_n 3 dX10_goFolded_79 rfl ?_
      refine td_iload_n 1 dX10_goFolded_80 rfl ?_
      refine cl_X10_182 rfl kp_85 dX10_goFolded_81 (Nat.le_of_ble_eq_true rfl) (c_through (n4 (fstW c σ (ix (x2 / 2)) (c 1 0))) x1 e75) (eV_k ?_)
      refine td_eqs (st2 := []) rfl ?_
      exact td_to KJ84 rfl rfl (by rw [show (if (n4 (fstW c σ (ix (x2 / 2)) (c 1 0))) < 0 then h else (hu (hu (hu h 95 (ix (n4 (fstW c σ (ix (x2 / 2)) (c 1 0)))) (x1 - (h 88 (ix (n4 (fstW c σ (ix (x2 / 2)) (c 1 0))))))) 91 (ix (n4 (fstW c σ (ix (x2 / 2)) (c 1 0)))) 3) 94 (ix (n4 (fstW c σ (ix (x2 / 2)) (c 1 0)))) x1) : td_H) = _ from if_neg q61])
theorem c_goFolded {G : td_G} {d : Nat} {h : td_H} (c σ : nH) (x : Int32) (hc : rmC c h) (hs : rmS σ h) (hx : vp_in x 120) (hw : WI c (ix x) σ) : td_C G (d + 2) mX10_goFolded [.ref 85, .int x] h (fun r h' => r = none ∧ Fr h h' ∧ rmS (sFold c (ix x) σ) h') := by
  obtain ⟨t, ht, rfl⟩ := vp_in_of hx (by decide)
  have et : ix (nI t) = t := ixn (by omega)
  rw [et] at hw ⊢
  have hn := hc.1.n
  refine td_entry rfl (Nat.le_of_ble_eq_true rfl) rfl (gX10_goFolded_0 ?_)
  have hS0 : rmS (nu (nu σ 8 1 0) 8 2 0) (hu (hu h 85 18 0) 85 19 0) := (hs.speed (v := 0) (by decide)).stuck (v := 0) (by decide)
  have hF0 : Fr h (hu (hu h 85 18 0) 85 19 0) := ((Fr.rf h).put (by unfold simP; omega) _).put (by unfold simP; omega) _
  have hW0 : WI c t (nu (nu σ 8 1 0) 8 2 0) := hw.of (fun p hp => by simpa [nu_app] using hp)
  show td_J G (d + 2) mX10_goFolded (fun r h' => r = none ∧ Fr h h' ∧ rmS (sWks c t (sAllOut t (nu (nu σ 8 1 0) 8 2 0) (c 1 0)) 4) h') 12 _ _ _
  generalize nu (nu σ 8 1 0) 8 2 0 = σ0 at hS0 hW0 ⊢
  generalize hu (hu h 85 18 0) 85 19 0 = H0 at hS0 hF0 ⊢
  refine td_forH (c 1 0) (fun k => [(0, .ref 85), (1, .int (nI t)), (2, .int (nI k))]) (fun k h' => Fr h h' ∧ rmS (sAllOut t σ0 k) h') rfl ⟨hF0, ?_⟩ (fun k hk h' hP ih => ?_) (fun h' hP => ?_)
  · have e : sAllOut t σ0 0 = σ0 := by funext a b; simp [sAllOut]
    rw [e]; exact hS0
  · obtain ⟨hF, hS⟩ := hP
    have hc' := hF.C hc
    have e9' := hc'.2.2.1
    have hk12 : k < 12 := by omega
    obtain ⟨⟨g1, g2⟩, -⟩ := hS.1 k hk12
    rw [sAllOut_at] at g1 g2
    refine gX10_goFolded_12 ⟨fun q => absurd (le_of (by rw [e9'] at q; exact q)) (by omega), fun _ => ⟨vp_in_nI hk12 (by decide), ?_⟩⟩
    refine td_to (ih _ ?_) (by rw [nI_1]) rfl rfl
    rw [ixn (by omega), g1, ite_c (p := nI (σ0 0 k) = 2) (q := σ0 0 k = 2) (nI_eq (b := 2) (by omega) (by decide)) _ _, sAllOut_s]
    by_cases q : σ0 0 k = 2
    · rw [if_pos q, if_pos q]
      refine ⟨(hF.put (by unfold simP; omega) _).put (by unfold simP; omega) _, ?_⟩
      have z := (hS.st k (v := 3) (by decide) (by decide)).thr k t
      rw [nn_t ht] at z
      exact z
    · rw [if_neg q, if_neg q]
      exact ⟨hF, hS⟩
  · obtain ⟨hF, hS⟩ := hP
    have hc' := hF.C hc
    have e9' := hc'.2.2.1
    have hWA : WI c t (sAllOut t σ0 (c 1 0)) := hW0.of (fun p hp => by
      simp only [sAllOut] at hp
      by_cases q : p < c 1 0 ∧ σ0 0 p = 2
      · rw [q.2]; decide
      · have q2 : ¬ (p < c 1 0 ∧ True ∧ σ0 0 p = 2) := fun z => q ⟨z.1, z.2.2⟩
        rw [if_neg q2, if_neg (by omega)] at hp
        exact hp)
    refine gX10_goFolded_12 ⟨fun _ => ?_, fun q => absurd (nle_of (by rw [e9'] at q; exact q)) (by omega)⟩
    generalize sAllOut t σ0 (c 1 0) = σA at hS hWA ⊢
    have hWk : ∀ k, WI c t (sWks c t σA k) := by
      intro k
      induction k with
      | zero => exact hWA
      | succ k ih => exact WI.walk hn ih
    refine td_forH 4 (fun k => [(0, .ref 85), (1, .int (nI t)), (2, .int (nI k))]) (fun k h' => Fr h h' ∧ rmS (sWks c t σA k) h') rfl ⟨hF, hS⟩ (fun k hk h2 hP ih => ?_) (fun h2 hP => ?_)
    · obtain ⟨hF2, hS2⟩ := hP
      have hc2 := hF2.C hc
      have ek2 : nI k / 2 = nI (k / 2) := pk_div (d := 2) (by omega) (by decide) (by decide)
      have es : ix (nI (k / 2)) = k / 2 := ixn (by omega)
      have hf := fstW_lt c (sWks c t σA k) (k / 2) (c 1 0)
      have hf12 : fstW c (sWks c t σA k) (k / 2) (c 1 0) = 12 ∨ fstW c (sWks c t σA k) (k / 2) (c 1 0) < 12 := by omega
      refine gX10_goFolded_47 (c := c) (σ := sWks c t σA k) ⟨fun q => absurd (le_of (a := 4) q) (by omega), fun _ => ?_⟩
      rw [ek2, es]
      refine ⟨hc2, hS2, vp_in_nI (by omega) (by decide), fun q => ⟨by rw [(n4_in q hf12).1]; exact vp_in_nI (n4_in q hf12).2 (by decide), trivial⟩, ?_⟩
      refine td_to (ih _ ?_) (by rw [nI_1]) rfl rfl
      show Fr h _ ∧ rmS (sWalk c t (k / 2) (sWks c t σA k)) _
      unfold sWalk
      by_cases q : n4 (fstW c (sWks c t σA k) (k / 2) (c 1 0)) < 0
      · rw [if_pos q, if_pos ((n4_neg hf12).mp q)]
        exact ⟨hF2, hS2⟩
      · obtain ⟨e1, e2⟩ := n4_in q hf12
        have ne : fstW c (sWks c t σA k) (k / 2) (c 1 0) ≠ 12 := by omega
        have hst := fstW_st c (sWks c t σA k) (k / 2) (c 1 0) ne hn
        have hfn : fstW c (sWks c t σA k) (k / 2) (c 1 0) < c 1 0 := by omega
        have hcm := hWk k _ hfn (by rw [hst.1]; decide)
        rw [if_neg q, if_neg ne, e1, ixn (by omega), (hc2.2.2.2.1 _ hfn).2.2, pk_sub hcm]
        refine ⟨((hF2.put (by unfold simP; omega) _).put (by unfold simP; omega) _).put (by unfold simP; omega) _, ?_⟩
        have z := ((hS2.wait (fstW c (sWks c t σA k) (k / 2) (c 1 0)) (t - c 4 (fstW c (sWks c t σA k) (k / 2) (c 1 0)))).st (fstW c (sWks c t σA k) (k / 2) (c 1 0)) (v := 3) (by decide) (by decide)).thr (fstW c (sWks c t σA k) (k / 2) (c 1 0)) t
        rw [nn_t ht] at z
        exact z
    · exact gX10_goFolded_47 (c := c) (σ := σ0) ⟨fun _ => ⟨rfl, hP.1, hP.2⟩, fun q => absurd (by decide) q⟩
