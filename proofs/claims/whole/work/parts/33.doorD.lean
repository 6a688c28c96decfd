/-! Door: those inside who step out -/
def sLv (t : Nat) (σ : nH) (S : Nat → Bool) (k : Nat) : nH := fun a b => if b < k ∧ S b = true ∧ a = 0 then 3 else if b < k ∧ S b = true ∧ a = 3 then t else σ a b
theorem sLv_s (t : Nat) (σ : nH) (S : Nat → Bool) (k : Nat) : sLv t σ S (k + 1) = if S k = true then nu (nu (sLv t σ S k) 0 k 3) 3 k t else sLv t σ S k := by
  funext a b
  by_cases q : S k = true
  · rw [if_pos q]
    simp only [nu_app, sLv]
    by_cases e : b = k
    · subst e
      by_cases a0 : a = 0
      · subst a0; simp [q]
      · by_cases a3 : a = 3
        · subst a3; simp [q]
        · simp [a0, a3]
    · have e2 : (b < k + 1) = (b < k) := by apply propext; omega
      simp [e, e2]
  · rw [if_neg q]
    simp only [sLv]
    by_cases e : b = k
    · subst e
      simp [q]
    · have e2 : (b < k + 1) = (b < k) := by apply propext; omega
      simp [e2]
theorem sLv_at (t : Nat) (σ : nH) (S : Nat → Bool) (k a : Nat) : sLv t σ S k a k = σ a k := by simp [sLv]
theorem sLv_0 (t : Nat) (σ : nH) (S : Nat → Bool) : sLv t σ S 0 = σ := by funext a b; simp [sLv]
theorem sLv_fin (t : Nat) (σ : nH) (S : Nat → Bool) {k n : Nat} (hk : k ≤ n) (h : ∀ j, k ≤ j → j < n → S j = false) : sLv t σ S k = sLv t σ S n := by
  funext a b
  unfold sLv
  have e : ∀ P : Prop, (b < k ∧ S b = true ∧ P) = (b < n ∧ S b = true ∧ P) := fun P => by
    apply propext
    constructor
    · intro z; exact ⟨by omega, z.2⟩
    · intro z
      exact ⟨Nat.lt_of_not_le (fun y => by have := h b y z.1; rw [this] at z; cases z.2.1), z.2⟩
  simp only [e]
theorem used_sLv (c σ : nH) (t : Nat) (S : Nat → Bool) (k i : Nat) : used c (sLv t σ S k) i ≤ used c σ i := by
  unfold used
  refine fb_sm_le (fun q hq => ?_)
  show (if inP c (sLv t σ S k) i q = true then szk (c 3 q) else 0) ≤ (if inP c σ i q = true then szk (c 3 q) else 0)
  by_cases y : inP c (sLv t σ S k) i q = true
  · have z : inP c σ i q = true := by
      unfold inP at y ⊢
      simp only [sLv] at y
      by_cases w : q < k ∧ S q = true
      · simp [w.1, w.2] at y
      · have w1 : ¬ (q < k ∧ S q = true ∧ True) := fun u => w ⟨u.1, u.2.1⟩
        simpa [w] using y
    rw [if_pos y, if_pos z]
    exact Nat.le_refl _
  · rw [if_neg y]
    exact Nat.zero_le _
set_option maxRecDepth 20000 in
set_option maxHeartbeats 4000000 in
theorem gX0_endInside_0 {G : td_G} {d : Nat} {Post : td_P} {k0 : Nat} {x1 x2 : Int32} {h : td_H} (hk0 : td_kd k0 = 0) (K : td_J G (d + 1) mX0_endInside Post 2 [(0, .ref k0), (1, .int x1), (2, .int x2), (3, .int 0)] [] h) : td_J G (d + 1) mX0_endInside Post 0 [(0, .ref k0), (1, .int x1), (2, .int x2)] [] h := by
  refine td_iconst (v := 0) dX0_endInside_0 (by decide) ?_
  refine td_istore_n (lv2 := [(0, .ref k0), (1, .int x1), (2, .int x2), (3, .int 0)]) dX0_endInside_1 (by decide) rfl ?_
  exact K
set_option maxRecDepth 20000 in
set_option maxHeartbeats 4000000 in
theorem gX0_endInside_2 {G : td_G} {d : Nat} {Post : td_P} {c : nH} {k0 : Nat} {x1 x2 x3 : Int32} {h : td_H} (hk0 : td_kd k0 = 0) (K : td_kd (ix (h k0 5)) = 5 ∧ (((h (ix (h k0 5)) 4) ≤ x3 → (Post none h)) ∧ (¬ (h (ix (h k0 5)) 4) ≤ x3 → (((jshr x1 x3) = 0 → (Post none h)) ∧ (¬ (jshr x1 x3) = 0 → ((¬ ((jshr x1 x3) &&& 1) = 0 → (dP c (ix (h k0 5)) h ∧ vp_in x3 12 ∧ ix x3 < c 1 0 ∧ (vp_in (h ((k0 + 1) + 5) (ix x3)) 4 ∧ (td_kd (ix ((relH h ((k0 + 1)) x3 (nI (szk (c 3 (ix x3))))) k0 5)) = 5 ∧ (dP c (ix ((relH h ((k0 + 1)) x3 (nI (szk (c 3 (ix x3))))) k0 5)) (relH h ((k0 + 1)) x3 (nI (szk (c 3 (ix x3))))) ∧ True))))) ∧ (td_J G (d + 1) mX0_endInside Post 2 [(0, .ref k0), (1, .int x1), (2, .int x2), (3, .int (x3 + 1))] [] (if ((jshr x1 x3) &&& 1) = 0 then h else (endH (hu (relH h ((k0 + 1)) x3 (nI (szk (c 3 (ix x3))))) k0 11 (((relH h ((k0 + 1)) x3 (nI (szk (c 3 (ix x3))))) k0 11) - (nI (puk (c 3 (ix x3)))))) ((k0 + 7)) x3 x2) : td_H)))))))) : td_J G (d + 1) mX0_endInside Post 2 [(0, .ref k0), (1, .int x1), (2, .int x2), (3, .int x3)] [] h := by
  refine td_iload_n 3 dX0_endInside_2 rfl ?_
  refine td_aload_n 0 dX0_endInside_3 rfl ?_
  refine gf_X0_38 rfl hk0 dX0_endInside_4 ?_
  obtain ⟨e4, K⟩ := K
  refine gf_X0_88 rfl e4 dX0_endInside_7 ?_
  obtain ⟨Kt, Kf⟩ := K
  refine td_icmp_ge (tgt := 75) dX0_endInside_10 (by decide) (fun q10 => ?_) (fun q10 => ?_)
  · have K := Kt q10
    exact td_return rfl dX0_endInside_75 K
  · have K := Kf q10
    refine td_iload_n 1 dX0_endInside_13 rfl ?_
    refine td_iload_n 3 dX0_endInside_14 rfl ?_
    refine td_ishr dX0_endInside_15 ?_
    obtain ⟨Kt, Kf⟩ := K
    refine td_if_eq (tgt := 75) dX0_endInside_16 (by decide) (fun q16 => ?_) (fun q16 => ?_)
    · have K := Kt q16
      exact td_return rfl dX0_endInside_75 K
    · have K := Kf q16
      refine td_iload_n 1 dX0_endInside_19 rfl ?_
      refine td_iload_n 3 dX0_endInside_20 rfl ?_
      refine td_ishr dX0_endInside_21 ?_
      refine td_iconst (v := 1) dX0_endInside_22 (by decide) ?_
      refine td_iand dX0_endInside_23 ?_
      obtain ⟨Ks24, K⟩ := K
      have KJ69 : td_J G (d + 1) mX0_endInside Post 69 [(0, .ref k0), (1, .int x1), (2, .int x2), (3, .int x3)] [] (if ((jshr x1 x3) &&& 1) = 0 then h else (endH (hu (relH h ((k0 + 1)) x3 (nI (szk (c 3 (ix x3))))) k0 11 (((relH h ((k0 + 1)) x3 (nI (szk (c 3 (ix x3))))) k0 11) - (nI (puk (c 3 (ix x3)))))) ((k0 + 7)) x3 x2) : td_H) := by
        refine td_iinc 3 (v := x3 + 1) (lv2 := [(0, .ref k0), (1, .int x1), (2, .int x2), (3, .int (x3 + 1))]) dX0_endInside_69 rfl (congrArg (x3 + ·) (by decide)) (by decide) rfl ?_
        refine td_goto (tgt := 2) dX0_endInside_72 (by decide) ?_
        exact K
      refine td_if_eq (tgt := 69) dX0_endInside_24 (by decide) (fun q24 => ?_) (fun q24 => ?_)
      · skip
        exact td_to KJ69 rfl rfl (by rw [show (if ((jshr x1 x3) &&& 1) = 0 then h else (endH (hu (relH h ((k0 + 1)) x3 (nI (szk (c 3 (ix x3))))) k0 11 (((relH h ((k0 + 1)) x3 (nI (szk (c 3 (ix x3))))) k0 11) - (nI (puk (c 3 (ix x3)))))) ((k0 + 7)) x3 x2) : td_H) = _ from if_pos q24])
      · have K := Ks24 q24
        refine td_aload_n 0 dX0_endInside_27 rfl ?_
        refine gf_X0_12 rfl hk0 dX0_endInside_28 ?_
        refine td_iload_n 3 dX0_endInside_31 rfl ?_
        refine td_aload_n 0 dX0_endInside_32 rfl ?_
        refine gf_X0_38 rfl hk0 dX0_endInside_33 ?_
        refine td_iload_n 3 dX0_endInside_36 rfl ?_
        obtain ⟨e37_0, K⟩ := K
        obtain ⟨e37_1, K⟩ := K
        obtain ⟨e37_2, K⟩ := K
        refine cl_X0_150 rfl e4 dX0_endInside_37 (Nat.le_of_ble_eq_true rfl) (c_P_sizeOf e4 c x3 e37_0 e37_1 e37_2) (eR_k ?_)
        refine td_eqs (st2 := [.int (nI (szk (c 3 (ix x3)))), .int x3, .ref (k0 + 1)]) rfl ?_
        obtain ⟨e40_1, K⟩ := K
        refine cl_X0_153 rfl (kd_0_0 hk0) dX0_endInside_40 (Nat.le_of_ble_eq_true rfl) (c_release (kd_0_0 hk0) x3 (nI (szk (c 3 (ix x3)))) e37_1 e40_1) (eV_k ?_)
        refine td_eqs (st2 := []) rfl ?_
        refine td_aload_n 0 dX0_endInside_43 rfl ?_
        refine td_dup dX0_endInside_44 rfl ?_
        refine gf_X0_58 rfl hk0 dX0_endInside_45 ?_
        refine td_aload_n 0 dX0_endInside_48 rfl ?_
        refine gf_X0_38 rfl hk0 dX0_endInside_49 ?_
        obtain ⟨e49, K⟩ := K
        refine td_iload_n 3 dX0_endInside_52 rfl ?_
        obtain ⟨e53_0, K⟩ := K
        refine cl_X0_156 rfl e49 dX0_endInside_53 (Nat.le_of_ble_eq_true rfl) (c_P_pushOf e49 c x3 e53_0 e37_1 e37_2) (eR_k ?_)
        refine td_eqs (st2 := [.int (nI (puk (c 3 (ix x3)))), .int ((relH h ((k0 + 1)) x3 (nI (szk (c 3 (ix x3))))) k0 11), .ref k0]) rfl ?_
        refine td_isub dX0_endInside_56 ?_
        refine pf_X0_58 rfl hk0 dX0_endInside_57 ?_
        refine td_aload_n 0 dX0_endInside_60 rfl ?_
        refine gf_X0_21 rfl hk0 dX0_endInside_61 ?_
        refine td_iload_n 3 dX0_endInside_64 rfl ?_
        refine td_iload_n 2 dX0_endInside_65 rfl ?_
        refine cl_X0_159 rfl (kd_0_1 hk0) dX0_endInside_66 (Nat.le_of_ble_eq_true rfl) (c_F_end (kd_0_1 hk0) x3 x2 e37_1) (eV_k ?_)
        refine td_eqs (st2 := []) rfl ?_
        exact td_to KJ69 rfl rfl (by rw [show (if ((jshr x1 x3) &&& 1) = 0 then h else (endH (hu (relH h ((k0 + 1)) x3 (nI (szk (c 3 (ix x3))))) k0 11 (((relH h ((k0 + 1)) x3 (nI (szk (c 3 (ix x3))))) k0 11) - (nI (puk (c 3 (ix x3)))))) ((k0 + 7)) x3 x2) : td_H) = _ from if_neg q24])
theorem c_endInside {G : td_G} {d : Nat} {h : td_H} {k q : Nat} {c σ : nH} {Q : Nat → Nat} (S : Nat → Bool) (x1 x2 : Int32) (hQ : dQ c Q k q h) (hV : dV c σ k h) (ok : sOK c σ) (hx1 : x1 = ms S) (hx2 : vp_in x2 120) (hS : ∀ p, S p = true → p < c 1 0 ∧ σ 0 p = 2) : td_C G (d + 1) mX0_endInside [.ref k, .int x1, .int x2] h (fun r h' => r = none ∧ FrD k h h' ∧ dV c (sLv (ix x2) σ S (c 1 0)) k h') := by
  obtain ⟨t, ht, rfl⟩ := vp_in_of hx2 (by decide)
  have et : ix (nI t) = t := ixn (by omega)
  rw [et]
  subst hx1
  have hk := hQ.1
  have hL := hQ.2.2.2.2.1.1.1
  have hn := hQ.2.2.2.2.1.1.n
  refine td_entry rfl (Nat.le_of_ble_eq_true rfl) rfl (gX0_endInside_0 hk ?_)
  refine td_forH (c 1 0) (fun i => [(0, .ref k), (1, .int (ms S)), (2, .int (nI t)), (3, .int (nI i))]) (fun i h' => FrD k h h' ∧ dV c (sLv t σ S i) k h') rfl ⟨FrD.rf k h, by rw [sLv_0]; exact hV⟩ (fun i hi h' hP ih => ?_) (fun h' hP => ?_)
  · obtain ⟨hF, hV'⟩ := hP
    have hQ' := hF.Q hQ
    have e5 : ix (h' k 5) = q := by rw [hQ'.2.2.2.1]; exact ixn (by have := hQ'.2.2.1; have := td_kd_lt hk (by decide); omega)
    have kq : td_kd (ix (h' k 5)) = 5 := by rw [e5]; exact hQ'.2.1
    have hPl := hQ'.2.2.2.2.1
    have e4 : h' (ix (h' k 5)) 4 = nI (c 1 0) := by rw [e5]; exact hPl.2.2.1
    have hi12 : i < 12 := by omega
    have ei : ix (nI i) = i := ixn (by omega)
    have vi : vp_in (nI i) 12 := vp_in_nI hi12 (by decide)
    have hk107 := td_kd_lt hk (by decide)
    refine gX0_endInside_2 (c := c) hk ⟨kq, fun y => absurd (le_of (by rw [e4] at y; exact y)) (by omega), fun _ => ⟨fun y => ?_, fun _ => ⟨fun y => ?_, ?_⟩⟩⟩
    · refine ⟨rfl, hF, ?_⟩
      rw [← sLv_fin t σ S (Nat.le_of_lt hi) (fun j h1 h2 => (ms_shr S hi12).mp y j h1 (by omega))]
      exact hV'
    · have hSi : S i = true := by
        rw [ms_bit S hi12] at y
        by_cases z : S i = true
        · exact z
        · rw [if_neg z] at y; exact absurd rfl y
      have h2 := (hS i hSi).2
      have h6 : h' (k + 6) i = nI (σ 1 i) := by
        have z := hV'.2.2.2.2.1 i hi (by rw [sLv_at]; exact h2)
        rw [sLv_at] at z
        exact z
      have hp4 : σ 1 i < 4 := by
        have := (ok.2.2.2.2 i hi).2.2 h2
        omega
      have fr : FrD k h' (relH h' (k + 1) (nI i) (nI (szk (c 3 (ix (nI i)))))) := by
        unfold relH
        rw [show k + 1 + 5 = k + 6 from rfl, ei, h6, ixn (by omega)]
        exact (((FrD.rf k h').put (by unfold dynP; omega) _).put (by unfold dynP; omega) _).put (by unfold dynP; omega) _
      have hQr := fr.Q hQ'
      have e5r : ix ((relH h' (k + 1) (nI i) (nI (szk (c 3 (ix (nI i)))))) k 5) = q := by rw [hQr.2.2.2.1]; exact ixn (by have := hQr.2.2.1; omega)
      refine ⟨by rw [e5]; exact hPl, vi, by rw [ei]; exact hi, ?_, ?_, ?_, trivial⟩
      · rw [show k + 1 + 5 = k + 6 from rfl, ei, h6]
        exact vp_in_nI hp4 (by decide)
      · rw [e5r]; exact hQ'.2.1
      · rw [e5r]; exact hQr.2.2.2.2.1
    · refine td_to (ih _ ?_) (by rw [nI_1]) rfl rfl
      rw [ms_bit S hi12, sLv_s, ei]
      by_cases hSi : S i = true
      · rw [if_pos hSi, if_neg (by decide), if_pos hSi]
        have h2 := (hS i hSi).2
        have hp4 : σ 1 i < 4 := by
          have := (ok.2.2.2.2 i hi).2.2 h2
          omega
        have z := hV'.leave (p := i) t hi hn (by rw [sLv_at]; exact h2) (by rw [sLv_at]; exact hp4) (by rw [sLv_at]; exact Nat.le_trans (used_sLv c σ t S i _) (ok.2.2.2.1 _ hp4))
        exact ⟨hF.tr z.2, z.1⟩
      · rw [if_neg hSi, if_pos rfl, if_neg hSi]
        exact ⟨hF, hV'⟩
  · obtain ⟨hF, hV'⟩ := hP
    have hQ' := hF.Q hQ
    have hk107 := td_kd_lt hk (by decide)
    have e5 : ix (h' k 5) = q := by rw [hQ'.2.2.2.1]; exact ixn (by have := hQ'.2.2.1; omega)
    have kq : td_kd (ix (h' k 5)) = 5 := by rw [e5]; exact hQ'.2.1
    have e4 : h' (ix (h' k 5)) 4 = nI (c 1 0) := by rw [e5]; exact hQ'.2.2.2.2.1.2.2.1
    exact gX0_endInside_2 (c := c) hk ⟨kq, fun _ => ⟨rfl, hF, hV'⟩, fun y => absurd (nle_of (by rw [e4] at y; exact y)) (by omega)⟩
