/-! Model: who is first, which part -/
set_option maxRecDepth 20000 in
set_option maxHeartbeats 4000000 in
theorem gX10_hasGrown_0 {G : td_G} {d : Nat} {Post : td_P} {x1 : Int32} {h : td_H} (K : td_J G (d + 1) mX10_hasGrown Post 4 [(0, .ref 85), (1, .int x1), (2, .int 0), (3, .int 0)] [] h) : td_J G (d + 1) mX10_hasGrown Post 0 [(0, .ref 85), (1, .int x1)] [] h := by
  refine td_iconst (v := 0) dX10_hasGrown_0 (by decide) ?_
  refine td_istore_n (lv2 := [(0, .ref 85), (1, .int x1), (2, .int 0)]) dX10_hasGrown_1 (by decide) rfl ?_
  refine td_iconst (v := 0) dX10_hasGrown_2 (by decide) ?_
  refine td_istore_n (lv2 := [(0, .ref 85), (1, .int x1), (2, .int 0), (3, .int 0)]) dX10_hasGrown_3 (by decide) rfl ?_
  exact K
set_option maxRecDepth 20000 in
set_option maxHeartbeats 4000000 in
theorem gX10_hasGrown_4 {G : td_G} {d : Nat} {Post : td_P} {c σ : nH} {x1 x2 x3 : Int32} {h : td_H} (K : ((h 86 9) ≤ x3 → ((x2 = 0 ∨ x2 = 1) ∧ Post (some (.int x2)) h)) ∧ (¬ (h 86 9) ≤ x3 → ((x2 = 0 → (rmC c h ∧ rmS σ h ∧ vp_in x1 4 ∧ (¬ (b2i ((jshr (ms (inP c σ (ix x1))) x3) &&& 1 = 1)) = 0 → (vp_in ((10 + (3 * x3)) + 2) 46 ∧ True)))) ∧ (td_J G (d + 1) mX10_hasGrown Post 4 [(0, .ref 85), (1, .int x1), (2, .int (if x2 = 0 then if (b2i ((jshr (ms (inP c σ (ix x1))) x3) &&& 1 = 1)) = 0 then 0 else if (h 86 (ix ((10 + (3 * x3)) + 2))) = 3 then 0 else 1 else 1 : Int32)), (3, .int (x3 + 1))] [] h)))) : td_J G (d + 1) mX10_hasGrown Post 4 [(0, .ref 85), (1, .int x1), (2, .int x2), (3, .int x3)] [] h := by
  refine td_iload_n 3 dX10_hasGrown_4 rfl ?_
  refine td_aload_n 0 dX10_hasGrown_5 rfl ?_
  refine gf_X10_7 rfl kp_85 dX10_hasGrown_6 ?_
  refine td_bipush (v := 9) dX10_hasGrown_9 (by decide) ?_
  refine td_ialdc (j := 9) kp_86 (by decide) (by unfold vp_in; decide) (by decide) dX10_hasGrown_11 ?_
  obtain ⟨Kt, Kf⟩ := K
  refine td_icmp_ge (tgt := 53) dX10_hasGrown_12 (by decide) (fun q12 => ?_) (fun q12 => ?_)
  · have K := Kt q12
    refine td_iload_n 2 dX10_hasGrown_53 rfl ?_
    obtain ⟨e54, K⟩ := K
    exact td_zreturn rfl (td_nb e54) dX10_hasGrown_54 K
  · have K := Kf q12
    refine td_iload_n 2 dX10_hasGrown_15 rfl ?_
    obtain ⟨Ks16, K⟩ := K
    have KJ46 : td_J G (d + 1) mX10_hasGrown Post 46 [(0, .ref 85), (1, .int x1), (2, .int x2), (3, .int x3)] [.int (if x2 = 0 then if (b2i ((jshr (ms (inP c σ (ix x1))) x3) &&& 1 = 1)) = 0 then 0 else if (h 86 (ix ((10 + (3 * x3)) + 2))) = 3 then 0 else 1 else 1 : Int32)] h := by
      refine td_istore_n (lv2 := [(0, .ref 85), (1, .int x1), (2, .int (if x2 = 0 then if (b2i ((jshr (ms (inP c σ (ix x1))) x3) &&& 1 = 1)) = 0 then 0 else if (h 86 (ix ((10 + (3 * x3)) + 2))) = 3 then 0 else 1 else 1 : Int32)), (3, .int x3)]) dX10_hasGrown_46 (by decide) rfl ?_
      refine td_iinc 3 (v := x3 + 1) (lv2 := [(0, .ref 85), (1, .int x1), (2, .int (if x2 = 0 then if (b2i ((jshr (ms (inP c σ (ix x1))) x3) &&& 1 = 1)) = 0 then 0 else if (h 86 (ix ((10 + (3 * x3)) + 2))) = 3 then 0 else 1 else 1 : Int32)), (3, .int (x3 + 1))]) dX10_hasGrown_47 rfl (congrArg (x3 + ·) (by decide)) (by decide) rfl ?_
      refine td_goto (tgt := 4) dX10_hasGrown_50 (by decide) ?_
      exact K
    refine td_if_ne (tgt := 41) dX10_hasGrown_16 (by decide) (fun q16 => ?_) (fun q16 => ?_)
    · skip
      refine td_iconst (v := 1) dX10_hasGrown_41 (by decide) ?_
      refine td_goto (tgt := 46) dX10_hasGrown_42 (by decide) ?_
      exact td_to KJ46 rfl (by rw [show (if x2 = 0 then if (b2i ((jshr (ms (inP c σ (ix x1))) x3) &&& 1 = 1)) = 0 then 0 else if (h 86 (ix ((10 + (3 * x3)) + 2))) = 3 then 0 else 1 else 1 : Int32) = _ from if_neg q16]) rfl
    · have K := Ks16 q16
      refine td_aload_n 0 dX10_hasGrown_19 rfl ?_
      refine td_iload_n 1 dX10_hasGrown_20 rfl ?_
      obtain ⟨e21_0, K⟩ := K
      obtain ⟨e21_1, K⟩ := K
      obtain ⟨e21_2, K⟩ := K
      refine cl_X10_163 rfl kp_85 dX10_hasGrown_21 (Nat.le_of_ble_eq_true rfl) (c_insideOf c σ x1 e21_0 e21_1 e21_2) (eR_k ?_)
      refine td_eqs (st2 := [.int (ms (inP c σ (ix x1)))]) rfl ?_
      refine td_iload_n 3 dX10_hasGrown_24 rfl ?_
      refine cl_X10_166 rfl dX10_hasGrown_25 (Nat.le_of_ble_eq_true rfl) (c_has (ms (inP c σ (ix x1))) x3) (eR_k ?_)
      refine td_eqs (st2 := [.int (b2i ((jshr (ms (inP c σ (ix x1))) x3) &&& 1 = 1))]) rfl ?_
      refine td_if_eq (tgt := 45) dX10_hasGrown_28 (by decide) (fun q28 => ?_) (fun q28 => ?_)
      · skip
        refine td_iconst (v := 0) dX10_hasGrown_45 (by decide) ?_
        exact td_to KJ46 rfl (by rw [show (if x2 = 0 then if (b2i ((jshr (ms (inP c σ (ix x1))) x3) &&& 1 = 1)) = 0 then 0 else if (h 86 (ix ((10 + (3 * x3)) + 2))) = 3 then 0 else 1 else 1 : Int32) = _ from (if_pos q16).trans (if_pos q28)]) rfl
      · have K := K q28
        refine td_aload_n 0 dX10_hasGrown_31 rfl ?_
        refine td_iload_n 3 dX10_hasGrown_32 rfl ?_
        refine td_iconst (v := 2) dX10_hasGrown_33 (by decide) ?_
        obtain ⟨e34_0, K⟩ := K
        refine cl_X10_94 rfl kp_85 dX10_hasGrown_34 (Nat.le_of_ble_eq_true rfl) (c_of x3 2 e34_0) (eR_k ?_)
        refine td_eqs (st2 := [.int (h 86 (ix ((10 + (3 * x3)) + 2)))]) rfl ?_
        refine td_iconst (v := 3) dX10_hasGrown_37 (by decide) ?_
        refine td_icmp_eq (tgt := 45) dX10_hasGrown_38 (by decide) (fun q38 => ?_) (fun q38 => ?_)
        · skip
          refine td_iconst (v := 0) dX10_hasGrown_45 (by decide) ?_
          exact td_to KJ46 rfl (by rw [show (if x2 = 0 then if (b2i ((jshr (ms (inP c σ (ix x1))) x3) &&& 1 = 1)) = 0 then 0 else if (h 86 (ix ((10 + (3 * x3)) + 2))) = 3 then 0 else 1 else 1 : Int32) = _ from (if_pos q16).trans ((if_neg q28).trans (if_pos q38))]) rfl
        · skip
          refine td_iconst (v := 1) dX10_hasGrown_41 (by decide) ?_
          refine td_goto (tgt := 46) dX10_hasGrown_42 (by decide) ?_
          exact td_to KJ46 rfl (by rw [show (if x2 = 0 then if (b2i ((jshr (ms (inP c σ (ix x1))) x3) &&& 1 = 1)) = 0 then 0 else if (h 86 (ix ((10 + (3 * x3)) + 2))) = 3 then 0 else 1 else 1 : Int32) = _ from (if_pos q16).trans ((if_neg q28).trans (if_neg q38))]) rfl
theorem exB_succ (p : Nat → Bool) (n : Nat) : exB p (n + 1) = (exB p n || p n) := rfl
theorem b2i_t {p : Prop} [Decidable p] (h : p) : b2i p = 1 := b2i_1.mpr h
theorem b2i_f {p : Prop} [Decidable p] (h : ¬ p) : b2i p = 0 := b2i_0.mpr h
theorem c_hasGrown {G : td_G} {d : Nat} {h : td_H} (c σ : nH) (x1 : Int32) (hc : rmC c h) (hs : rmS σ h) (h1 : vp_in x1 4) : td_C G (d + 1) mX10_hasGrown [.ref 85, .int x1] h (eR (b2i (grown c σ (ix x1) = true)) h) := by
  obtain ⟨i, hi4, rfl⟩ := vp_in_of h1 (by decide)
  have hix : ix (nI i) = i := ixn (by omega)
  rw [hix]
  have hn := hc.1.n
  have e9 := hc.2.2.1
  refine td_entry rfl (Nat.le_of_ble_eq_true rfl) rfl (gX10_hasGrown_0 ?_)
  refine td_for (c 1 0) (fun k => [(0, .ref 85), (1, .int (nI i)), (2, .int (b2i (exB (fun p => inP c σ i p && !(decide (c 3 p = 3))) k = true))), (3, .int (nI k))]) (fun _ => h) rfl rfl (fun k hk ih => ?_) ?_
  · have hk12 : k < 12 := by omega
    have v2 : vp_in (10 + 3 * nI k + 2) 46 := of_in hk12 (w := 2) (by decide)
    refine gX10_hasGrown_4 (c := c) (σ := σ) ⟨fun q => absurd (le_of (by rw [e9] at q; exact q)) (by omega), fun _ => ⟨fun _ => ⟨hc, hs, h1, fun _ => ⟨v2, trivial⟩⟩, ?_⟩⟩
    refine td_to ih ?_ rfl rfl
    rw [nI_1, b2i_ite, b2i_ite, of_2 hc hk, ms_bit _ hk12, hix, ite_c (p := nI (c 3 k) = 3) (q := c 3 k = 3) (nI_eq (b := 3) (by have := (hc.1.p hk).2.1; omega) (by decide)) _ _]
    have e : (if exB (fun p => inP c σ i p && !(decide (c 3 p = 3))) k = true then 1 else if (if inP c σ i k = true then 1 else 0 : Int32) = 1 then (if c 3 k = 3 then 0 else 1) else 0 : Int32) = b2i (exB (fun p => inP c σ i p && !(decide (c 3 p = 3))) (k + 1) = true) := by
      rw [exB_succ]
      unfold b2i
      by_cases q1 : exB (fun p => inP c σ i p && !(decide (c 3 p = 3))) k = true
      · rw [if_pos q1, if_pos (by rw [q1]; rfl)]
      · rw [if_neg q1]
        by_cases q2 : inP c σ i k = true
        · rw [if_pos q2, if_pos rfl]
          by_cases q3 : c 3 k = 3
          · rw [if_pos q3, if_neg (by simp [q1, q3])]
          · rw [if_neg q3, if_pos (by simp [q2, q3])]
        · rw [if_neg q2, if_neg (by decide), if_neg (by simp [q1, q2])]
    rw [e]
  · exact gX10_hasGrown_4 (c := c) (σ := σ) ⟨fun _ => ⟨b2i_01 _, rfl, rfl⟩, fun q => absurd (nle_of (by rw [e9] at q; exact q)) (by omega)⟩
def n4 (v : Nat) : Int32 := if v = 12 then -4 else nI v
theorem fstW_lt (c σ : nH) (side : Nat) : ∀ i, fstW c σ side i = 12 ∨ fstW c σ side i < i
  | 0 => Or.inl rfl
  | i + 1 => by
    unfold fstW
    split
    · exact Or.inr (by omega)
    · rcases fstW_lt c σ side i with z | z
      · exact Or.inl z
      · exact Or.inr (by omega)
theorem n4_neg {v : Nat} (h : v = 12 ∨ v < 12) : n4 v < 0 ↔ v = 12 := by
  unfold n4
  by_cases q : v = 12
  · rw [if_pos q]
    exact ⟨fun _ => q, fun _ => by decide⟩
  · rw [if_neg q]
    exact ⟨fun z => absurd z (nI_pos (by omega)), fun z => absurd z q⟩
set_option maxRecDepth 20000 in
set_option maxHeartbeats 4000000 in
theorem gX10_firstAt_0 {G : td_G} {d : Nat} {Post : td_P} {x1 : Int32} {h : td_H} (K : td_J G (d + 1) mX10_firstAt Post 5 [(0, .ref 85), (1, .int x1), (2, .int (-4)), (3, .int 0)] [] h) : td_J G (d + 1) mX10_firstAt Post 0 [(0, .ref 85), (1, .int x1)] [] h := by
  refine td_bipush (v := (-4)) dX10_firstAt_0 (by decide) ?_
  refine td_istore_n (lv2 := [(0, .ref 85), (1, .int x1), (2, .int (-4))]) dX10_firstAt_2 (by decide) rfl ?_
  refine td_iconst (v := 0) dX10_firstAt_3 (by decide) ?_
  refine td_istore_n (lv2 := [(0, .ref 85), (1, .int x1), (2, .int (-4)), (3, .int 0)]) dX10_firstAt_4 (by decide) rfl ?_
  exact K
set_option maxRecDepth 20000 in
set_option maxHeartbeats 4000000 in
theorem gX10_firstAt_5 {G : td_G} {d : Nat} {Post : td_P} {x1 x2 x3 : Int32} {h : td_H} (K : ((h 86 9) ≤ x3 → (Post (some (.int x2)) h)) ∧ (¬ (h 86 9) ≤ x3 → (vp_in x3 12 ∧ (((h 91 (ix x3)) = 1 → (vp_in ((10 + (3 * x3)) + 1) 46 ∧ ((h 86 (ix ((10 + (3 * x3)) + 1))) = x1 → (vp_in ((10 + (3 * x3)) + 2) 46 ∧ ((¬ x2 < 0 → (vp_in ((10 + (3 * x2)) + 2) 46 ∧ True)) ∧ ((¬ x2 < 0 → (((if (h 86 (ix ((10 + (3 * x3)) + 2))) = 4 then 1 else 0 : Int32) = 0 → ((if (h 86 (ix ((10 + (3 * x3)) + 2))) = 4 then 1 else 0 : Int32) = (if x2 < 0 then 0 else if (h 86 (ix ((10 + (3 * x2)) + 2))) = 4 then 1 else 0 : Int32) → (vp_in x2 12 ∧ True))) ∧ (¬ (if (h 86 (ix ((10 + (3 * x3)) + 2))) = 4 then 1 else 0 : Int32) = 0 → (¬ (if x2 < 0 then 0 else if (h 86 (ix ((10 + (3 * x2)) + 2))) = 4 then 1 else 0 : Int32) = 0 → ((if (h 86 (ix ((10 + (3 * x3)) + 2))) = 4 then 1 else 0 : Int32) = (if x2 < 0 then 0 else if (h 86 (ix ((10 + (3 * x2)) + 2))) = 4 then 1 else 0 : Int32) → (vp_in x2 12 ∧ True)))))))))))) ∧ (td_J G (d + 1) mX10_firstAt Post 5 [(0, .ref 85), (1, .int x1), (2, .int (if (h 91 (ix x3)) = 1 then if (h 86 (ix ((10 + (3 * x3)) + 1))) = x1 then (if x2 < 0 then x3 else if (if (h 86 (ix ((10 + (3 * x3)) + 2))) = 4 then 1 else 0 : Int32) = 0 then if (if (h 86 (ix ((10 + (3 * x3)) + 2))) = 4 then 1 else 0 : Int32) = (if x2 < 0 then 0 else if (h 86 (ix ((10 + (3 * x2)) + 2))) = 4 then 1 else 0 : Int32) then if (h 88 (ix x2)) ≤ (h 88 (ix x3)) then x2 else x3 else x2 else if (if x2 < 0 then 0 else if (h 86 (ix ((10 + (3 * x2)) + 2))) = 4 then 1 else 0 : Int32) = 0 then x3 else if (if (h 86 (ix ((10 + (3 * x3)) + 2))) = 4 then 1 else 0 : Int32) = (if x2 < 0 then 0 else if (h 86 (ix ((10 + (3 * x2)) + 2))) = 4 then 1 else 0 : Int32) then if (h 88 (ix x2)) ≤ (h 88 (ix x3)) then x2 else x3 else x2 : Int32) else x2 else x2 : Int32)), (3, .int (x3 + 1))] [] h))))) : td_J G (d + 1) mX10_firstAt Post 5 [(0, .ref 85), (1, .int x1), (2, .int x2), (3, .int x3)] [] h := by
  refine td_iload_n 3 dX10_firstAt_5 rfl ?_
  refine td_aload_n 0 dX10_firstAt_6 rfl ?_
  refine gf_X10_7 rfl kp_85 dX10_firstAt_7 ?_
  refine td_bipush (v := 9) dX10_firstAt_10 (by decide) ?_
  refine td_ialdc (j := 9) kp_86 (by decide) (by unfold vp_in; decide) (by decide) dX10_firstAt_12 ?_
  obtain ⟨Kt, Kf⟩ := K
  refine td_icmp_ge (tgt := 122) dX10_firstAt_13 (by decide) (fun q13 => ?_) (fun q13 => ?_)
  · have K := Kt q13
    refine td_iload_n 2 dX10_firstAt_122 rfl ?_
    exact td_ireturn rfl dX10_firstAt_123 K
  · have K := Kf q13
    refine td_aload_n 0 dX10_firstAt_16 rfl ?_
    refine gf_X10_25 rfl kp_85 dX10_firstAt_17 ?_
    refine td_iload_n 3 dX10_firstAt_20 rfl ?_
    obtain ⟨e21, K⟩ := K
    refine td_ialdc (j := (ix x3)) kp_91 (by decide) e21 rfl dX10_firstAt_21 ?_
    refine td_iconst (v := 1) dX10_firstAt_22 (by decide) ?_
    obtain ⟨Ks23, K⟩ := K
    have KJ116 : td_J G (d + 1) mX10_firstAt Post 116 [(0, .ref 85), (1, .int x1), (2, .int (if (h 91 (ix x3)) = 1 then if (h 86 (ix ((10 + (3 * x3)) + 1))) = x1 then (if x2 < 0 then x3 else if (if (h 86 (ix ((10 + (3 * x3)) + 2))) = 4 then 1 else 0 : Int32) = 0 then if (if (h 86 (ix ((10 + (3 * x3)) + 2))) = 4 then 1 else 0 : Int32) = (if x2 < 0 then 0 else if (h 86 (ix ((10 + (3 * x2)) + 2))) = 4 then 1 else 0 : Int32) then if (h 88 (ix x2)) ≤ (h 88 (ix x3)) then x2 else x3 else x2 else if (if x2 < 0 then 0 else if (h 86 (ix ((10 + (3 * x2)) + 2))) = 4 then 1 else 0 : Int32) = 0 then x3 else if (if (h 86 (ix ((10 + (3 * x3)) + 2))) = 4 then 1 else 0 : Int32) = (if x2 < 0 then 0 else if (h 86 (ix ((10 + (3 * x2)) + 2))) = 4 then 1 else 0 : Int32) then if (h 88 (ix x2)) ≤ (h 88 (ix x3)) then x2 else x3 else x2 : Int32) else x2 else x2 : Int32)), (3, .int x3)] [] h := by
      refine td_iinc 3 (v := x3 + 1) (lv2 := [(0, .ref 85), (1, .int x1), (2, .int (if (h 91 (ix x3)) = 1 then if (h 86 (ix ((10 + (3 * x3)) + 1))) = x1 then (if x2 < 0 then x3 else if (if (h 86 (ix ((10 + (3 * x3)) + 2))) = 4 then 1 else 0 : Int32) = 0 then if (if (h 86 (ix ((10 + (3 * x3)) + 2))) = 4 then 1 else 0 : Int32) = (if x2 < 0 then 0 else if (h 86 (ix ((10 + (3 * x2)) + 2))) = 4 then 1 else 0 : Int32) then if (h 88 (ix x2)) ≤ (h 88 (ix x3)) then x2 else x3 else x2 else if (if x2 < 0 then 0 else if (h 86 (ix ((10 + (3 * x2)) + 2))) = 4 then 1 else 0 : Int32) = 0 then x3 else if (if (h 86 (ix ((10 + (3 * x3)) + 2))) = 4 then 1 else 0 : Int32) = (if x2 < 0 then 0 else if (h 86 (ix ((10 + (3 * x2)) + 2))) = 4 then 1 else 0 : Int32) then if (h 88 (ix x2)) ≤ (h 88 (ix x3)) then x2 else x3 else x2 : Int32) else x2 else x2 : Int32)), (3, .int (x3 + 1))]) dX10_firstAt_116 rfl (congrArg (x3 + ·) (by decide)) (by decide) rfl ?_
      refine td_goto (tgt := 5) dX10_firstAt_119 (by decide) ?_
      exact K
    refine td_icmp_ne (tgt := 116) dX10_firstAt_23 (by decide) (fun q23 => ?_) (fun q23 => ?_)
    · skip
      exact td_to KJ116 (by rw [show (if (h 91 (ix x3)) = 1 then if (h 86 (ix ((10 + (3 * x3)) + 1))) = x1 then (if x2 < 0 then x3 else if (if (h 86 (ix ((10 + (3 * x3)) + 2))) = 4 then 1 else 0 : Int32) = 0 then if (if (h 86 (ix ((10 + (3 * x3)) + 2))) = 4 then 1 else 0 : Int32) = (if x2 < 0 then 0 else if (h 86 (ix ((10 + (3 * x2)) + 2))) = 4 then 1 else 0 : Int32) then if (h 88 (ix x2)) ≤ (h 88 (ix x3)) then x2 else x3 else x2 else if (if x2 < 0 then 0 else if (h 86 (ix ((10 + (3 * x2)) + 2))) = 4 then 1 else 0 : Int32) = 0 then x3 else if (if (h 86 (ix ((10 + (3 * x3)) + 2))) = 4 then 1 else 0 : Int32) = (if x2 < 0 then 0 else if (h 86 (ix ((10 + (3 * x2)) + 2))) = 4 then 1 else 0 : Int32) then if (h 88 (ix x2)) ≤ (h 88 (ix x3)) then x2 else x3 else x2 : Int32) else x2 else x2 : Int32) = _ from if_neg q23]) rfl rfl
    · have K := Ks23 q23
      refine td_aload_n 0 dX10_firstAt_26 rfl ?_
      refine td_iload_n 3 dX10_firstAt_27 rfl ?_
      refine td_iconst (v := 1) dX10_firstAt_28 (by decide) ?_
      obtain ⟨e29_0, K⟩ := K
      refine cl_X10_94 rfl kp_85 dX10_firstAt_29 (Nat.le_of_ble_eq_true rfl) (c_of x3 1 e29_0) (eR_k ?_)
      refine td_eqs (st2 := [.int (h 86 (ix ((10 + (3 * x3)) + 1)))]) rfl ?_
      refine td_iload_n 1 dX10_firstAt_32 rfl ?_
      refine td_icmp_ne (tgt := 116) dX10_firstAt_33 (by decide) (fun q33 => ?_) (fun q33 => ?_)
      · skip
        exact td_to KJ116 (by rw [show (if (h 91 (ix x3)) = 1 then if (h 86 (ix ((10 + (3 * x3)) + 1))) = x1 then (if x2 < 0 then x3 else if (if (h 86 (ix ((10 + (3 * x3)) + 2))) = 4 then 1 else 0 : Int32) = 0 then if (if (h 86 (ix ((10 + (3 * x3)) + 2))) = 4 then 1 else 0 : Int32) = (if x2 < 0 then 0 else if (h 86 (ix ((10 + (3 * x2)) + 2))) = 4 then 1 else 0 : Int32) then if (h 88 (ix x2)) ≤ (h 88 (ix x3)) then x2 else x3 else x2 else if (if x2 < 0 then 0 else if (h 86 (ix ((10 + (3 * x2)) + 2))) = 4 then 1 else 0 : Int32) = 0 then x3 else if (if (h 86 (ix ((10 + (3 * x3)) + 2))) = 4 then 1 else 0 : Int32) = (if x2 < 0 then 0 else if (h 86 (ix ((10 + (3 * x2)) + 2))) = 4 then 1 else 0 : Int32) then if (h 88 (ix x2)) ≤ (h 88 (ix x3)) then x2 else x3 else x2 : Int32) else x2 else x2 : Int32) = _ from (if_pos q23).trans (if_neg q33)]) rfl rfl
      · have K := K q33
        refine td_aload_n 0 dX10_firstAt_36 rfl ?_
        refine td_iload_n 3 dX10_firstAt_37 rfl ?_
        refine td_iconst (v := 2) dX10_firstAt_38 (by decide) ?_
        obtain ⟨e39_0, K⟩ := K
        refine cl_X10_94 rfl kp_85 dX10_firstAt_39 (Nat.le_of_ble_eq_true rfl) (c_of x3 2 e39_0) (eR_k ?_)
        refine td_eqs (st2 := [.int (h 86 (ix ((10 + (3 * x3)) + 2)))]) rfl ?_
        refine td_iconst (v := 4) dX10_firstAt_42 (by decide) ?_
        have KJ51 : td_J G (d + 1) mX10_firstAt Post 51 [(0, .ref 85), (1, .int x1), (2, .int x2), (3, .int x3)] [.int (if (h 86 (ix ((10 + (3 * x3)) + 2))) = 4 then 1 else 0 : Int32)] h := by
          refine td_istore (lv2 := [(0, .ref 85), (1, .int x1), (2, .int x2), (3, .int x3), (4, .int (if (h 86 (ix ((10 + (3 * x3)) + 2))) = 4 then 1 else 0 : Int32))]) dX10_firstAt_51 (by decide) rfl ?_
          refine td_iload_n 2 dX10_firstAt_53 rfl ?_
          obtain ⟨Ks54, K⟩ := K
          have KJ72 : td_J G (d + 1) mX10_firstAt Post 72 [(0, .ref 85), (1, .int x1), (2, .int x2), (3, .int x3), (4, .int (if (h 86 (ix ((10 + (3 * x3)) + 2))) = 4 then 1 else 0 : Int32))] [.int (if x2 < 0 then 0 else if (h 86 (ix ((10 + (3 * x2)) + 2))) = 4 then 1 else 0 : Int32)] h := by
            refine td_istore (lv2 := [(0, .ref 85), (1, .int x1), (2, .int x2), (3, .int x3), (4, .int (if (h 86 (ix ((10 + (3 * x3)) + 2))) = 4 then 1 else 0 : Int32)), (5, .int (if x2 < 0 then 0 else if (h 86 (ix ((10 + (3 * x2)) + 2))) = 4 then 1 else 0 : Int32))]) dX10_firstAt_72 (by decide) rfl ?_
            refine td_iload_n 2 dX10_firstAt_74 rfl ?_
            have Ks75 := K
            have KJ115 : td_J G (d + 1) mX10_firstAt Post 115 [(0, .ref 85), (1, .int x1), (2, .int x2), (3, .int x3), (4, .int (if (h 86 (ix ((10 + (3 * x3)) + 2))) = 4 then 1 else 0 : Int32)), (5, .int (if x2 < 0 then 0 else if (h 86 (ix ((10 + (3 * x2)) + 2))) = 4 then 1 else 0 : Int32))] [.int (if x2 < 0 then x3 else if (if (h 86 (ix ((10 + (3 * x3)) + 2))) = 4 then 1 else 0 : Int32) = 0 then if (if (h 86 (ix ((10 + (3 * x3)) + 2))) = 4 then 1 else 0 : Int32) = (if x2 < 0 then 0 else if (h 86 (ix ((10 + (3 * x2)) + 2))) = 4 then 1 else 0 : Int32) then if (h 88 (ix x2)) ≤ (h 88 (ix x3)) then x2 else x3 else x2 else if (if x2 < 0 then 0 else if (h 86 (ix ((10 + (3 * x2)) + 2))) = 4 then 1 else 0 : Int32) = 0 then x3 else if (if (h 86 (ix ((10 + (3 * x3)) + 2))) = 4 then 1 else 0 : Int32) = (if x2 < 0 then 0 else if (h 86 (ix ((10 + (3 * x2)) + 2))) = 4 then 1 else 0 : Int32) then if (h 88 (ix x2)) ≤ (h 88 (ix x3)) then x2 else x3 else x2 : Int32)] h := by
              refine td_istore_n (lv2 := [(0, .ref 85), (1, .int x1), (2, .int (if x2 < 0 then x3 else if (if (h 86 (ix ((10 + (3 * x3)) + 2))) = 4 then 1 else 0 : Int32) = 0 then if (if (h 86 (ix ((10 + (3 * x3)) + 2))) = 4 then 1 else 0 : Int32) = (if x2 < 0 then 0 else if (h 86 (ix ((10 + (3 * x2)) + 2))) = 4 then 1 else 0 : Int32) then if (h 88 (ix x2)) ≤ (h 88 (ix x3)) then x2 else x3 else x2 else if (if x2 < 0 then 0 else if (h 86 (ix ((10 + (3 * x2)) + 2))) = 4 then 1 else 0 : Int32) = 0 then x3 else if (if (h 86 (ix ((10 + (3 * x3)) + 2))) = 4 then 1 else 0 : Int32) = (if x2 < 0 then 0 else if (h 86 (ix ((10 + (3 * x2)) + 2))) = 4 then 1 else 0 : Int32) then if (h 88 (ix x2)) ≤ (h 88 (ix x3)) then x2 else x3 else x2 : Int32)), (3, .int x3), (4, .int (if (h 86 (ix ((10 + (3 * x3)) + 2))) = 4 then 1 else 0 : Int32)), (5, .int (if x2 < 0 then 0 else if (h 86 (ix ((10 + (3 * x2)) + 2))) = 4 then 1 else 0 : Int32))]) dX10_firstAt_115 (by decide) rfl ?_
              refine td_drop (lv2 := [(0, .ref 85), (1, .int x1), (2, .int (if x2 < 0 then x3 else if (if (h 86 (ix ((10 + (3 * x3)) + 2))) = 4 then 1 else 0 : Int32) = 0 then if (if (h 86 (ix ((10 + (3 * x3)) + 2))) = 4 then 1 else 0 : Int32) = (if x2 < 0 then 0 else if (h 86 (ix ((10 + (3 * x2)) + 2))) = 4 then 1 else 0 : Int32) then if (h 88 (ix x2)) ≤ (h 88 (ix x3)) then x2 else x3 else x2 else if (if x2 < 0 then 0 else if (h 86 (ix ((10 + (3 * x2)) + 2))) = 4 then 1 else 0 : Int32) = 0 then x3 else if (if (h 86 (ix ((10 + (3 * x3)) + 2))) = 4 then 1 else 0 : Int32) = (if x2 < 0 then 0 else if (h 86 (ix ((10 + (3 * x2)) + 2))) = 4 then 1 else 0 : Int32) then if (h 88 (ix x2)) ≤ (h 88 (ix x3)) then x2 else x3 else x2 : Int32)), (3, .int x3)]) [0, 1, 2, 3] rfl ?_
              exact td_to KJ116 (by rw [show (if (h 91 (ix x3)) = 1 then if (h 86 (ix ((10 + (3 * x3)) + 1))) = x1 then (if x2 < 0 then x3 else if (if (h 86 (ix ((10 + (3 * x3)) + 2))) = 4 then 1 else 0 : Int32) = 0 then if (if (h 86 (ix ((10 + (3 * x3)) + 2))) = 4 then 1 else 0 : Int32) = (if x2 < 0 then 0 else if (h 86 (ix ((10 + (3 * x2)) + 2))) = 4 then 1 else 0 : Int32) then if (h 88 (ix x2)) ≤ (h 88 (ix x3)) then x2 else x3 else x2 else if (if x2 < 0 then 0 else if (h 86 (ix ((10 + (3 * x2)) + 2))) = 4 then 1 else 0 : Int32) = 0 then x3 else if (if (h 86 (ix ((10 + (3 * x3)) + 2))) = 4 then 1 else 0 : Int32) = (if x2 < 0 then 0 else if (h 86 (ix ((10 + (3 * x2)) + 2))) = 4 then 1 else 0 : Int32) then if (h 88 (ix x2)) ≤ (h 88 (ix x3)) then x2 else x3 else x2 : Int32) else x2 else x2 : Int32) = _ from (if_pos q23).trans (if_pos q33)]) rfl rfl
            refine td_if_lt (tgt := 110) dX10_firstAt_75 (by decide) (fun q75 => ?_) (fun q75 => ?_)
            · skip
              refine td_iload_n 3 dX10_firstAt_110 rfl ?_
              refine td_goto (tgt := 115) dX10_firstAt_111 (by decide) ?_
              exact td_to KJ115 rfl (by rw [show (if x2 < 0 then x3 else if (if (h 86 (ix ((10 + (3 * x3)) + 2))) = 4 then 1 else 0 : Int32) = 0 then if (if (h 86 (ix ((10 + (3 * x3)) + 2))) = 4 then 1 else 0 : Int32) = (if x2 < 0 then 0 else if (h 86 (ix ((10 + (3 * x2)) + 2))) = 4 then 1 else 0 : Int32) then if (h 88 (ix x2)) ≤ (h 88 (ix x3)) then x2 else x3 else x2 else if (if x2 < 0 then 0 else if (h 86 (ix ((10 + (3 * x2)) + 2))) = 4 then 1 else 0 : Int32) = 0 then x3 else if (if (h 86 (ix ((10 + (3 * x3)) + 2))) = 4 then 1 else 0 : Int32) = (if x2 < 0 then 0 else if (h 86 (ix ((10 + (3 * x2)) + 2))) = 4 then 1 else 0 : Int32) then if (h 88 (ix x2)) ≤ (h 88 (ix x3)) then x2 else x3 else x2 : Int32) = _ from if_pos q75]) rfl
            · have K := Ks75 q75
              refine td_iload 4 dX10_firstAt_78 rfl ?_
              refine td_if_eq (tgt := 88) dX10_firstAt_80 (by decide) (fun q80 => ?_) (fun q80 => ?_)
              · have K := K.1 q80
                refine td_iload 4 dX10_firstAt_88 rfl ?_
                refine td_iload 5 dX10_firstAt_90 rfl ?_
                refine td_icmp_ne (tgt := 114) dX10_firstAt_92 (by decide) (fun q92 => ?_) (fun q92 => ?_)
                · skip
                  refine td_iload_n 2 dX10_firstAt_114 rfl ?_
                  exact td_to KJ115 rfl (by rw [show (if x2 < 0 then x3 else if (if (h 86 (ix ((10 + (3 * x3)) + 2))) = 4 then 1 else 0 : Int32) = 0 then if (if (h 86 (ix ((10 + (3 * x3)) + 2))) = 4 then 1 else 0 : Int32) = (if x2 < 0 then 0 else if (h 86 (ix ((10 + (3 * x2)) + 2))) = 4 then 1 else 0 : Int32) then if (h 88 (ix x2)) ≤ (h 88 (ix x3)) then x2 else x3 else x2 else if (if x2 < 0 then 0 else if (h 86 (ix ((10 + (3 * x2)) + 2))) = 4 then 1 else 0 : Int32) = 0 then x3 else if (if (h 86 (ix ((10 + (3 * x3)) + 2))) = 4 then 1 else 0 : Int32) = (if x2 < 0 then 0 else if (h 86 (ix ((10 + (3 * x2)) + 2))) = 4 then 1 else 0 : Int32) then if (h 88 (ix x2)) ≤ (h 88 (ix x3)) then x2 else x3 else x2 : Int32) = _ from (if_neg q75).trans ((if_pos q80).trans (if_neg q92))]) rfl
                · have K := K q92
                  refine td_aload_n 0 dX10_firstAt_95 rfl ?_
                  refine gf_X10_16 rfl kp_85 dX10_firstAt_96 ?_
                  refine td_iload_n 3 dX10_firstAt_99 rfl ?_
                  refine td_ialdc (j := (ix x3)) kp_88 (by decide) e21 rfl dX10_firstAt_100 ?_
                  refine td_aload_n 0 dX10_firstAt_101 rfl ?_
                  refine gf_X10_16 rfl kp_85 dX10_firstAt_102 ?_
                  refine td_iload_n 2 dX10_firstAt_105 rfl ?_
                  obtain ⟨e106, K⟩ := K
                  refine td_ialdc (j := (ix x2)) kp_88 (by decide) e106 rfl dX10_firstAt_106 ?_
                  refine td_icmp_ge (tgt := 114) dX10_firstAt_107 (by decide) (fun q107 => ?_) (fun q107 => ?_)
                  · skip
                    refine td_iload_n 2 dX10_firstAt_114 rfl ?_
                    exact td_to KJ115 rfl (by rw [show (if x2 < 0 then x3 else if (if (h 86 (ix ((10 + (3 * x3)) + 2))) = 4 then 1 else 0 : Int32) = 0 then if (if (h 86 (ix ((10 + (3 * x3)) + 2))) = 4 then 1 else 0 : Int32) = (if x2 < 0 then 0 else if (h 86 (ix ((10 + (3 * x2)) + 2))) = 4 then 1 else 0 : Int32) then if (h 88 (ix x2)) ≤ (h 88 (ix x3)) then x2 else x3 else x2 else if (if x2 < 0 then 0 else if (h 86 (ix ((10 + (3 * x2)) + 2))) = 4 then 1 else 0 : Int32) = 0 then x3 else if (if (h 86 (ix ((10 + (3 * x3)) + 2))) = 4 then 1 else 0 : Int32) = (if x2 < 0 then 0 else if (h 86 (ix ((10 + (3 * x2)) + 2))) = 4 then 1 else 0 : Int32) then if (h 88 (ix x2)) ≤ (h 88 (ix x3)) then x2 else x3 else x2 : Int32) = _ from (if_neg q75).trans ((if_pos q80).trans ((if_pos q92).trans (if_pos q107)))]) rfl
                  · skip
                    refine td_iload_n 3 dX10_firstAt_110 rfl ?_
                    refine td_goto (tgt := 115) dX10_firstAt_111 (by decide) ?_
                    exact td_to KJ115 rfl (by rw [show (if x2 < 0 then x3 else if (if (h 86 (ix ((10 + (3 * x3)) + 2))) = 4 then 1 else 0 : Int32) = 0 then if (if (h 86 (ix ((10 + (3 * x3)) + 2))) = 4 then 1 else 0 : Int32) = (if x2 < 0 then 0 else if (h 86 (ix ((10 + (3 * x2)) + 2))) = 4 then 1 else 0 : Int32) then if (h 88 (ix x2)) ≤ (h 88 (ix x3)) then x2 else x3 else x2 else if (if x2 < 0 then 0 else if (h 86 (ix ((10 + (3 * x2)) + 2))) = 4 then 1 else 0 : Int32) = 0 then x3 else if (if (h 86 (ix ((10 + (3 * x3)) + 2))) = 4 then 1 else 0 : Int32) = (if x2 < 0 then 0 else if (h 86 (ix ((10 + (3 * x2)) + 2))) = 4 then 1 else 0 : Int32) then if (h 88 (ix x2)) ≤ (h 88 (ix x3)) then x2 else x3 else x2 : Int32) = _ from (if_neg q75).trans ((if_pos q80).trans ((if_pos q92).trans (if_neg q107)))]) rfl
              · have K := K.2 q80
                refine td_iload 5 dX10_firstAt_83 rfl ?_
                refine td_if_eq (tgt := 110) dX10_firstAt_85 (by decide) (fun q85 => ?_) (fun q85 => ?_)
                · skip
                  refine td_iload_n 3 dX10_firstAt_110 rfl ?_
                  refine td_goto (tgt := 115) dX10_firstAt_111 (by decide) ?_
                  exact td_to KJ115 rfl (by rw [show (if x2 < 0 then x3 else if (if (h 86 (ix ((10 + (3 * x3)) + 2))) = 4 then 1 else 0 : Int32) = 0 then if (if (h 86 (ix ((10 + (3 * x3)) + 2))) = 4 then 1 else 0 : Int32) = (if x2 < 0 then 0 else if (h 86 (ix ((10 + (3 * x2)) + 2))) = 4 then 1 else 0 : Int32) then if (h 88 (ix x2)) ≤ (h 88 (ix x3)) then x2 else x3 else x2 else if (if x2 < 0 then 0 else if (h 86 (ix ((10 + (3 * x2)) + 2))) = 4 then 1 else 0 : Int32) = 0 then x3 else if (if (h 86 (ix ((10 + (3 * x3)) + 2))) = 4 then 1 else 0 : Int32) = (if x2 < 0 then 0 else if (h 86 (ix ((10 + (3 * x2)) + 2))) = 4 then 1 else 0 : Int32) then if (h 88 (ix x2)) ≤ (h 88 (ix x3)) then x2 else x3 else x2 : Int32) = _ from (if_neg q75).trans ((if_neg q80).trans (if_pos q85))]) rfl
                · have K := K q85
                  refine td_iload 4 dX10_firstAt_88 rfl ?_
                  refine td_iload 5 dX10_firstAt_90 rfl ?_
                  refine td_icmp_ne (tgt := 114) dX10_firstAt_92 (by decide) (fun q92 => ?_) (fun q92 => ?_)
                  · skip
                    refine td_iload_n 2 dX10_firstAt_114 rfl ?_
                    exact td_to KJ115 rfl (by rw [show (if x2 < 0 then x3 else if (if (h 86 (ix ((10 + (3 * x3)) + 2))) = 4 then 1 else 0 : Int32) = 0 then if (if (h 86 (ix ((10 + (3 * x3)) + 2))) = 4 then 1 else 0 : Int32) = (if x2 < 0 then 0 else if (h 86 (ix ((10 + (3 * x2)) + 2))) = 4 then 1 else 0 : Int32) then if (h 88 (ix x2)) ≤ (h 88 (ix x3)) then x2 else x3 else x2 else if (if x2 < 0 then 0 else if (h 86 (ix ((10 + (3 * x2)) + 2))) = 4 then 1 else 0 : Int32) = 0 then x3 else if (if (h 86 (ix ((10 + (3 * x3)) + 2))) = 4 then 1 else 0 : Int32) = (if x2 < 0 then 0 else if (h 86 (ix ((10 + (3 * x2)) + 2))) = 4 then 1 else 0 : Int32) then if (h 88 (ix x2)) ≤ (h 88 (ix x3)) then x2 else x3 else x2 : Int32) = _ from (if_neg q75).trans ((if_neg q80).trans ((if_neg q85).trans (if_neg q92)))]) rfl
                  · have K := K q92
                    refine td_aload_n 0 dX10_firstAt_95 rfl ?_
                    refine gf_X10_16 rfl kp_85 dX10_firstAt_96 ?_
                    refine td_iload_n 3 dX10_firstAt_99 rfl ?_
                    refine td_ialdc (j := (ix x3)) kp_88 (by decide) e21 rfl dX10_firstAt_100 ?_
                    refine td_aload_n 0 dX10_firstAt_101 rfl ?_
                    refine gf_X10_16 rfl kp_85 dX10_firstAt_102 ?_
                    refine td_iload_n 2 dX10_firstAt_105 rfl ?_
                    obtain ⟨e106, K⟩ := K
                    refine td_ialdc (j := (ix x2)) kp_88 (by decide) e106 rfl dX10_firstAt_106 ?_
                    refine td_icmp_ge (tgt := 114) dX10_firstAt_107 (by decide) (fun q107 => ?_) (fun q107 => ?_)
                    · skip
                      refine td_iload_n 2 dX10_firstAt_114 rfl ?_
                      exact td_to KJ115 rfl (by rw [show (if x2 < 0 then x3 else if (if (h 86 (ix ((10 + (3 * x3)) + 2))) = 4 then 1 else 0 : Int32) = 0 then if (if (h 86 (ix ((10 + (3 * x3)) + 2))) = 4 then 1 else 0 : Int32) = (if x2 < 0 then 0 else if (h 86 (ix ((10 + (3 * x2)) + 2))) = 4 then 1 else 0 : Int32) then if (h 88 (ix x2)) ≤ (h 88 (ix x3)) then x2 else x3 else x2 else if (if x2 < 0 then 0 else if (h 86 (ix ((10 + (3 * x2)) + 2))) = 4 then 1 else 0 : Int32) = 0 then x3 else if (if (h 86 (ix ((10 + (3 * x3)) + 2))) = 4 then 1 else 0 : Int32) = (if x2 < 0 then 0 else if (h 86 (ix ((10 + (3 * x2)) + 2))) = 4 then 1 else 0 : Int32) then if (h 88 (ix x2)) ≤ (h 88 (ix x3)) then x2 else x3 else x2 : Int32) = _ from (if_neg q75).trans ((if_neg q80).trans ((if_neg q85).trans ((if_pos q92).trans (if_pos q107))))]) rfl
                    · skip
                      refine td_iload_n 3 dX10_firstAt_110 rfl ?_
                      refine td_goto (tgt := 115) dX10_firstAt_111 (by decide) ?_
                      exact td_to KJ115 rfl (by rw [show (if x2 < 0 then x3 else if (if (h 86 (ix ((10 + (3 * x3)) + 2))) = 4 then 1 else 0 : Int32) = 0 then if (if (h 86 (ix ((10 + (3 * x3)) + 2))) = 4 then 1 else 0 : Int32) = (if x2 < 0 then 0 else if (h 86 (ix ((10 + (3 * x2)) + 2))) = 4 then 1 else 0 : Int32) then if (h 88 (ix x2)) ≤ (h 88 (ix x3)) then x2 else x3 else x2 else if (if x2 < 0 then 0 else if (h 86 (ix ((10 + (3 * x2)) + 2))) = 4 then 1 else 0 : Int32) = 0 then x3 else if (if (h 86 (ix ((10 + (3 * x3)) + 2))) = 4 then 1 else 0 : Int32) = (if x2 < 0 then 0 else if (h 86 (ix ((10 + (3 * x2)) + 2))) = 4 then 1 else 0 : Int32) then if (h 88 (ix x2)) ≤ (h 88 (ix x3)) then x2 else x3 else x2 : Int32) = _ from (if_neg q75).trans ((if_neg q80).trans ((if_neg q85).trans ((if_pos q92).trans (if_neg q107))))]) rfl
          refine td_if_lt (tgt := 71) dX10_firstAt_54 (by decide) (fun q54 => ?_) (fun q54 => ?_)
          · skip
            refine td_iconst (v := 0) dX10_firstAt_71 (by decide) ?_
            exact td_to KJ72 rfl (by rw [show (if x2 < 0 then 0 else if (h 86 (ix ((10 + (3 * x2)) + 2))) = 4 then 1 else 0 : Int32) = _ from if_pos q54]) rfl
          · have K := Ks54 q54
            refine td_aload_n 0 dX10_firstAt_57 rfl ?_
            refine td_iload_n 2 dX10_firstAt_58 rfl ?_
            refine td_iconst (v := 2) dX10_firstAt_59 (by decide) ?_
            obtain ⟨e60_0, K⟩ := K
            refine cl_X10_94 rfl kp_85 dX10_firstAt_60 (Nat.le_of_ble_eq_true rfl) (c_of x2 2 e60_0) (eR_k ?_)
            refine td_eqs (st2 := [.int (h 86 (ix ((10 + (3 * x2)) + 2)))]) rfl ?_
            refine td_iconst (v := 4) dX10_firstAt_63 (by decide) ?_
            refine td_icmp_ne (tgt := 71) dX10_firstAt_64 (by decide) (fun q64 => ?_) (fun q64 => ?_)
            · skip
              refine td_iconst (v := 0) dX10_firstAt_71 (by decide) ?_
              exact td_to KJ72 rfl (by rw [show (if x2 < 0 then 0 else if (h 86 (ix ((10 + (3 * x2)) + 2))) = 4 then 1 else 0 : Int32) = _ from (if_neg q54).trans (if_neg q64)]) rfl
            · skip
              refine td_iconst (v := 1) dX10_firstAt_67 (by decide) ?_
              refine td_goto (tgt := 72) dX10_firstAt_68 (by decide) ?_
              exact td_to KJ72 rfl (by rw [show (if x2 < 0 then 0 else if (h 86 (ix ((10 + (3 * x2)) + 2))) = 4 then 1 else 0 : Int32) = _ from (if_neg q54).trans (if_pos q64)]) rfl
        refine td_icmp_ne (tgt := 50) dX10_firstAt_43 (by decide) (fun q43 => ?_) (fun q43 => ?_)
        · skip
          refine td_iconst (v := 0) dX10_firstAt_50 (by decide) ?_
          exact td_to KJ51 rfl (by rw [show (if (h 86 (ix ((10 + (3 * x3)) + 2))) = 4 then 1 else 0 : Int32) = _ from if_neg q43]) rfl
        · skip
          refine td_iconst (v := 1) dX10_firstAt_46 (by decide) ?_
          refine td_goto (tgt := 51) dX10_firstAt_47 (by decide) ?_
          exact td_to KJ51 rfl (by rw [show (if (h 86 (ix ((10 + (3 * x3)) + 2))) = 4 then 1 else 0 : Int32) = _ from if_pos q43]) rfl
theorem c_firstAt {G : td_G} {d : Nat} {h : td_H} (c σ : nH) (x1 : Int32) (hc : rmC c h) (hs : rmS σ h) (h1 : vp_in x1 2) : td_C G (d + 1) mX10_firstAt [.ref 85, .int x1] h (eR (n4 (fstW c σ (ix x1) (c 1 0))) h) := by
  obtain ⟨s, hs2, rfl⟩ := vp_in_of h1 (by decide)
  have hix : ix (nI s) = s := ixn (by omega)
  rw [hix]
  have hn := hc.1.n
  have e9 := hc.2.2.1
  refine td_entry rfl (Nat.le_of_ble_eq_true rfl) rfl (gX10_firstAt_0 ?_)
  refine td_for (c 1 0) (fun k => [(0, .ref 85), (1, .int (nI s)), (2, .int (n4 (fstW c σ s k))), (3, .int (nI k))]) (fun _ => h) rfl rfl (fun k hk ih => ?_) ?_
  · have hk12 : k < 12 := by omega
    have v1 : vp_in (10 + 3 * nI k + 1) 46 := of_in hk12 (w := 1) (by decide)
    have v2 : vp_in (10 + 3 * nI k + 2) 46 := of_in hk12 (w := 2) (by decide)
    have hb := fstW_lt c σ s k
    have hneg := n4_neg (v := fstW c σ s k) (by omega)
    have hbI : ¬ n4 (fstW c σ s k) < 0 → n4 (fstW c σ s k) = nI (fstW c σ s k) ∧ fstW c σ s k < k := fun z => by
      have z2 : fstW c σ s k ≠ 12 := fun y => z (hneg.mpr y)
      exact ⟨by unfold n4; rw [if_neg z2], by omega⟩
    have vb : ¬ n4 (fstW c σ s k) < 0 → vp_in (n4 (fstW c σ s k)) 12 ∧ vp_in (10 + 3 * n4 (fstW c σ s k) + 2) 46 := fun z => by
      obtain ⟨z1, z2⟩ := hbI z
      rw [z1]
      exact ⟨vp_in_nI (by omega) (by decide), of_in (by omega) (w := 2) (by decide)⟩
    refine gX10_firstAt_5 ⟨fun q => absurd (le_of (by rw [e9] at q; exact q)) (by omega), fun _ => ⟨vp_in_nI (by omega) (by decide), fun _ => ⟨v1, fun _ => ⟨v2, fun z => ⟨(vb z).2, trivial⟩, fun z => ⟨fun _ => fun _ => ⟨(vb z).1, trivial⟩, fun _ => fun _ => fun _ => ⟨(vb z).1, trivial⟩⟩⟩⟩, ?_⟩⟩
    refine td_to ih ?_ rfl rfl
    obtain ⟨⟨g1, g2⟩, -⟩ := hs.1 k (by omega)
    have hp := hc.1.p hk
    rw [ixn (by omega), g1, of_1 hc hk, of_2 hc hk, nI_1, (hc.2.2.2.1 k hk).2.2, ite_c (p := nI (σ 0 k) = 1) (q := σ 0 k = 1) (nI_eq (b := 1) (by omega) (by decide)) _ _, ite_c (p := nI (c 2 k) = nI s) (q := c 2 k = s) (nI_eq (by omega) (by omega)) _ _]
    have e4 : (if nI (c 3 k) = 4 then 1 else 0 : Int32) = if c 3 k = 4 then 1 else 0 := ite_c (nI_eq (b := 4) (by omega) (by decide)) _ _
    rw [e4]
    refine congrArg (fun z => [(0, Value.ref 85), (1, Value.int (nI s)), (2, Value.int z), (3, Value.int (nI (k + 1)))]) ?_
    show _ = n4 (if σ 0 k = 1 ∧ c 2 k = s ∧ (fstW c σ s k = 12 ∨ ahead c k (fstW c σ s k) = true) then k else fstW c σ s k)
    by_cases q1 : σ 0 k = 1
    · rw [if_pos q1]
      by_cases q2 : c 2 k = s
      · rw [if_pos q2]
        by_cases q3 : fstW c σ s k = 12
        · rw [if_pos (hneg.mpr q3), if_pos ⟨q1, q2, Or.inl q3⟩]
          unfold n4
          rw [if_neg (by omega)]
        · have z := fun y => q3 (hneg.mp y)
          obtain ⟨z1, z2⟩ := hbI z
          have hpb := hc.1.p (p := fstW c σ s k) (by omega)
          rw [if_neg z, if_neg z, z1, of_2 hc (by omega), ixn (by omega), (hc.2.2.2.1 (fstW c σ s k) (by omega)).2.2]
          have e5 : (if nI (c 3 (fstW c σ s k)) = 4 then 1 else 0 : Int32) = if c 3 (fstW c σ s k) = 4 then 1 else 0 := ite_c (nI_eq (b := 4) (by omega) (by decide)) _ _
          rw [e5, ite_c (p := nI (c 4 (fstW c σ s k)) ≤ nI (c 4 k)) (q := c 4 (fstW c σ s k) ≤ c 4 k) (nI_leI (by omega) (by omega)) _ _]
          have e6 : (n4 (if σ 0 k = 1 ∧ c 2 k = s ∧ (fstW c σ s k = 12 ∨ ahead c k (fstW c σ s k) = true) then k else fstW c σ s k)) = if ahead c k (fstW c σ s k) = true then nI k else nI (fstW c σ s k) := by
            by_cases y : ahead c k (fstW c σ s k) = true
            · rw [if_pos ⟨q1, q2, Or.inr y⟩, if_pos y]
              unfold n4
              rw [if_neg (by omega)]
            · rw [if_neg (fun w => w.2.2.elim q3 y), if_neg y]
              unfold n4
              rw [if_neg q3]
          rw [e6]
          unfold ahead
          by_cases y1 : c 3 k = 4 <;> by_cases y2 : c 3 (fstW c σ s k) = 4 <;> by_cases y3 : c 4 (fstW c σ s k) ≤ c 4 k <;> simp [y1, y2, y3, Nat.not_lt.mpr, Nat.not_le.mp] <;> omega
      · rw [if_neg q2, if_neg (fun z => q2 z.2.1)]
    · rw [if_neg q1, if_neg (fun z => q1 z.1)]
  · exact gX10_firstAt_5 ⟨fun _ => ⟨rfl, rfl⟩, fun q => absurd (nle_of (by rw [e9] at q; exact q)) (by omega)⟩
