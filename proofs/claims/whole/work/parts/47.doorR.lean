/-! Door: the log; it is played -/
set_option maxRecDepth 20000 in
set_option maxHeartbeats 4000000 in
theorem gX3_write_0 {G : td_G} {d : Nat} {Post : td_P} {k2 : Nat} {x1 : Int32} {h : td_H} (hk2 : td_kd k2 = 0) (K : vp_in x1 120 ∧ (∀ H22 : td_H, H22 = hu (hu h 38 (ix x1) (h (k2 + 1) 7)) 39 (ix x1) ((hu h 38 (ix x1) (h (k2 + 1) 7)) k2 12) → (∀ H42 : td_H, H42 = hu (hu H22 40 (ix x1) (H22 k2 10)) 41 (ix x1) ((hu H22 40 (ix x1) (H22 k2 10)) k2 13) → (td_J G d mX3_write Post 45 [(0, .ref 37), (1, .int x1), (2, .ref k2), (3, .int 0)] [] H42)))) : td_J G d mX3_write Post 0 [(0, .ref 37), (1, .int x1), (2, .ref k2)] [] h := by
  refine td_aload_n 0 dX3_write_0 rfl ?_
  refine gf_X3_9 rfl kp_37 dX3_write_1 ?_
  refine td_iload_n 1 dX3_write_4 rfl ?_
  refine td_aload_n 2 dX3_write_5 rfl ?_
  refine gf_X3_27 rfl hk2 dX3_write_6 ?_
  refine gf_X3_33 rfl (kd_0_0 hk2) dX3_write_9 ?_
  obtain ⟨e12, K⟩ := K
  refine td_iastc (j := (ix x1)) kp_38 (by decide) e12 rfl dX3_write_12 ?_
  refine td_aload_n 0 dX3_write_13 rfl ?_
  refine gf_X3_15 rfl kp_37 dX3_write_14 ?_
  refine td_iload_n 1 dX3_write_17 rfl ?_
  refine td_aload_n 2 dX3_write_18 rfl ?_
  refine gf_X3_38 rfl hk2 dX3_write_19 ?_
  refine td_iastc (j := (ix x1)) kp_39 (by decide) e12 rfl dX3_write_22 ?_
  obtain ⟨H22, E22⟩ : ∃ z : td_H, z = hu (hu h 38 (ix x1) (h (k2 + 1) 7)) 39 (ix x1) ((hu h 38 (ix x1) (h (k2 + 1) 7)) k2 12) := ⟨_, rfl⟩
  have K := K H22 E22
  refine td_eqh E22 ?_
  refine td_aload_n 0 dX3_write_23 rfl ?_
  refine gf_X3_18 rfl kp_37 dX3_write_24 ?_
  refine td_iload_n 1 dX3_write_27 rfl ?_
  refine td_aload_n 2 dX3_write_28 rfl ?_
  refine gf_X3_40 rfl hk2 dX3_write_29 ?_
  refine td_iastc (j := (ix x1)) kp_40 (by decide) e12 rfl dX3_write_32 ?_
  refine td_aload_n 0 dX3_write_33 rfl ?_
  refine gf_X3_21 rfl kp_37 dX3_write_34 ?_
  refine td_iload_n 1 dX3_write_37 rfl ?_
  refine td_aload_n 2 dX3_write_38 rfl ?_
  refine gf_X3_42 rfl hk2 dX3_write_39 ?_
  refine td_iastc (j := (ix x1)) kp_41 (by decide) e12 rfl dX3_write_42 ?_
  obtain ⟨H42, E42⟩ : ∃ z : td_H, z = hu (hu H22 40 (ix x1) (H22 k2 10)) 41 (ix x1) ((hu H22 40 (ix x1) (H22 k2 10)) k2 13) := ⟨_, rfl⟩
  have K := K H42 E42
  refine td_eqh E42 ?_
  refine td_iconst (v := 0) dX3_write_43 (by decide) ?_
  refine td_istore_n (lv2 := [(0, .ref 37), (1, .int x1), (2, .ref k2), (3, .int 0)]) dX3_write_44 (by decide) rfl ?_
  exact K
set_option maxRecDepth 20000 in
set_option maxHeartbeats 4000000 in
theorem gX3_write_45 {G : td_G} {d : Nat} {Post : td_P} {k2 : Nat} {x1 x3 : Int32} {h : td_H} (hk2 : td_kd k2 = 0) (K : (4 ≤ x3 → (Post none h)) ∧ (¬ 4 ≤ x3 → (vp_in x3 4 ∧ (vp_in ((x1 * 4) + x3) 480 ∧ (∀ H68 : td_H, H68 = hu h 42 (ix ((x1 * 4) + x3)) (h ((k2 + 1) + 3) (ix x3)) → (td_J G d mX3_write Post 45 [(0, .ref 37), (1, .int x1), (2, .ref k2), (3, .int (x3 + 1))] [] H68)))))) : td_J G d mX3_write Post 45 [(0, .ref 37), (1, .int x1), (2, .ref k2), (3, .int x3)] [] h := by
  refine td_iload_n 3 dX3_write_45 rfl ?_
  refine td_iconst (v := 4) dX3_write_46 (by decide) ?_
  obtain ⟨Kt, Kf⟩ := K
  refine td_icmp_ge (tgt := 75) dX3_write_47 (by decide) (fun q47 => ?_) (fun q47 => ?_)
  · have K := Kt q47
    exact td_return rfl dX3_write_75 K
  · have K := Kf q47
    refine td_aload_n 0 dX3_write_50 rfl ?_
    refine gf_X3_24 rfl kp_37 dX3_write_51 ?_
    refine td_iload_n 1 dX3_write_54 rfl ?_
    refine td_iconst (v := 4) dX3_write_55 (by decide) ?_
    refine td_imul dX3_write_56 ?_
    refine td_iload_n 3 dX3_write_57 rfl ?_
    refine td_iadd dX3_write_58 ?_
    refine td_aload_n 2 dX3_write_59 rfl ?_
    refine gf_X3_27 rfl hk2 dX3_write_60 ?_
    refine gf_X3_44 rfl (kd_0_0 hk2) dX3_write_63 ?_
    refine td_iload_n 3 dX3_write_66 rfl ?_
    obtain ⟨e67, K⟩ := K
    refine td_ialdc (j := (ix x3)) (kd_1_2 (kd_0_0 hk2)) (by decide) e67 rfl dX3_write_67 ?_
    obtain ⟨e68, K⟩ := K
    refine td_iastc (j := (ix ((x1 * 4) + x3))) kp_42 (by decide) e68 rfl dX3_write_68 ?_
    obtain ⟨H68, E68⟩ : ∃ z : td_H, z = hu h 42 (ix ((x1 * 4) + x3)) (h ((k2 + 1) + 3) (ix x3)) := ⟨_, rfl⟩
    have K := K H68 E68
    refine td_eqh E68 ?_
    refine td_iinc 3 (v := x3 + 1) (lv2 := [(0, .ref 37), (1, .int x1), (2, .ref k2), (3, .int (x3 + 1))]) dX3_write_69 rfl (congrArg (x3 + ·) (by decide)) (by decide) rfl ?_
    refine td_goto (tgt := 45) dX3_write_72 (by decide) ?_
    exact K
set_option maxRecDepth 20000 in
set_option maxHeartbeats 4000000 in
theorem gX3_insideAt_0 {G : td_G} {d : Nat} {Post : td_P} {x1 : Int32} {h : td_H} (K : td_J G d mX3_insideAt Post 4 [(0, .ref 37), (1, .int x1), (2, .int 0), (3, .int 0)] [] h) : td_J G d mX3_insideAt Post 0 [(0, .ref 37), (1, .int x1)] [] h := by
  refine td_iconst (v := 0) dX3_insideAt_0 (by decide) ?_
  refine td_istore_n (lv2 := [(0, .ref 37), (1, .int x1), (2, .int 0)]) dX3_insideAt_1 (by decide) rfl ?_
  refine td_iconst (v := 0) dX3_insideAt_2 (by decide) ?_
  refine td_istore_n (lv2 := [(0, .ref 37), (1, .int x1), (2, .int 0), (3, .int 0)]) dX3_insideAt_3 (by decide) rfl ?_
  exact K
set_option maxRecDepth 20000 in
set_option maxHeartbeats 4000000 in
theorem gX3_insideAt_4 {G : td_G} {d : Nat} {Post : td_P} {x1 x2 x3 : Int32} {h : td_H} (K : (4 ≤ x3 → (Post (some (.int x2)) h)) ∧ (¬ 4 ≤ x3 → (vp_in ((x1 * 4) + x3) 480 ∧ (td_J G d mX3_insideAt Post 4 [(0, .ref 37), (1, .int x1), (2, .int (x2 ||| (h 42 (ix ((x1 * 4) + x3))))), (3, .int (x3 + 1))] [] h)))) : td_J G d mX3_insideAt Post 4 [(0, .ref 37), (1, .int x1), (2, .int x2), (3, .int x3)] [] h := by
  refine td_iload_n 3 dX3_insideAt_4 rfl ?_
  refine td_iconst (v := 4) dX3_insideAt_5 (by decide) ?_
  obtain ⟨Kt, Kf⟩ := K
  refine td_icmp_ge (tgt := 28) dX3_insideAt_6 (by decide) (fun q6 => ?_) (fun q6 => ?_)
  · have K := Kt q6
    refine td_iload_n 2 dX3_insideAt_28 rfl ?_
    exact td_ireturn rfl dX3_insideAt_29 K
  · have K := Kf q6
    refine td_iload_n 2 dX3_insideAt_9 rfl ?_
    refine td_aload_n 0 dX3_insideAt_10 rfl ?_
    refine gf_X3_24 rfl kp_37 dX3_insideAt_11 ?_
    refine td_iload_n 1 dX3_insideAt_14 rfl ?_
    refine td_iconst (v := 4) dX3_insideAt_15 (by decide) ?_
    refine td_imul dX3_insideAt_16 ?_
    refine td_iload_n 3 dX3_insideAt_17 rfl ?_
    refine td_iadd dX3_insideAt_18 ?_
    obtain ⟨e19, K⟩ := K
    refine td_ialdc (j := (ix ((x1 * 4) + x3))) kp_42 (by decide) e19 rfl dX3_insideAt_19 ?_
    refine td_ior dX3_insideAt_20 ?_
    refine td_istore_n (lv2 := [(0, .ref 37), (1, .int x1), (2, .int (x2 ||| (h 42 (ix ((x1 * 4) + x3))))), (3, .int x3)]) dX3_insideAt_21 (by decide) rfl ?_
    refine td_iinc 3 (v := x3 + 1) (lv2 := [(0, .ref 37), (1, .int x1), (2, .int (x2 ||| (h 42 (ix ((x1 * 4) + x3))))), (3, .int (x3 + 1))]) dX3_insideAt_22 rfl (congrArg (x3 + ·) (by decide)) (by decide) rfl ?_
    refine td_goto (tgt := 4) dX3_insideAt_25 (by decide) ?_
    exact K
theorem kd0 {k : Nat} (hk : td_kd k = 0) : k = 17 ∨ k = 49 := (by decide +kernel : ∀ k, k < 107 → td_kd k = 0 → k = 17 ∨ k = 49) k (td_kd_lt hk (by decide)) hk
def logH (h : td_H) (t k n : Nat) : td_H := fun a b => if a = 38 ∧ b = t then h (k + 1) 7 else if a = 39 ∧ b = t then h k 12 else if a = 40 ∧ b = t then h k 10 else if a = 41 ∧ b = t then h k 13 else if a = 42 ∧ t * 4 ≤ b ∧ b < t * 4 + n then h (k + 4) (b - t * 4) else h a b
theorem c_L_write {G : td_G} {d : Nat} {h : td_H} {k : Nat} (hk : td_kd k = 0) (x : Int32) (hx : vp_in x 120) : td_C G d mX3_write [.ref 37, .int x, .ref k] h (eV (logH h (ix x) k 4)) := by
  obtain ⟨t, ht, rfl⟩ := vp_in_of hx (by decide)
  have et : ix (nI t) = t := ixn (by omega)
  rw [et]
  have hkk := kd0 hk
  have lo : ∀ n a b, a ≠ 38 → a ≠ 39 → a ≠ 40 → a ≠ 41 → a ≠ 42 → logH h t k n a b = h a b := fun n a b n1 n2 n3 n4 n5 => by
    unfold logH
    rw [if_neg (fun z => n1 z.1), if_neg (fun z => n2 z.1), if_neg (fun z => n3 z.1), if_neg (fun z => n4 z.1), if_neg (fun z => n5 z.1)]
  refine td_entry rfl (Nat.le_of_ble_eq_true rfl) rfl (gX3_write_0 hk ⟨hx, ?_⟩)
  rw [et]
  intro H22 E22 H42 E42
  refine td_for 4 (fun i => [(0, .ref 37), (1, .int (nI t)), (2, .ref k), (3, .int (nI i))]) (fun i => logH h t k i) rfl ?_ (fun i hi ih => ?_) ?_
  · rw [E42, E22]
    funext a b
    simp only [hu_app]
    unfold logH
    have k1 : ¬ k + 1 = 38 ∧ ¬ k = 38 ∧ ¬ k = 39 ∧ ¬ k = 40 := by omega
    by_cases a38 : a = 38
    · subst a38; simp
    · by_cases a39 : a = 39
      · subst a39; simp [k1]
      · by_cases a40 : a = 40
        · subst a40; simp [k1]
        · by_cases a41 : a = 41
          · subst a41; simp [k1]
          · have n0 : ¬ (a = 42 ∧ t * 4 ≤ b ∧ b < t * 4 + 0) := by omega
            simp only [Nat.add_zero] at n0
            simp [a38, a39, a40, a41]
            intro _ _ _
            omega
  · refine gX3_write_45 hk ⟨fun y => absurd (le_of (a := 4) y) (by omega), fun _ => ⟨vp_in_nI hi (by decide), ?_⟩⟩
    have e : nI t * 4 + nI i = nI (t * 4 + i) := by rw [show (4 : Int32) = nI 4 from rfl, pk_mul, nI_add]
    rw [e, ixn (by omega), ixn (by omega)]
    refine ⟨vp_in_nI (by omega) (by decide), fun H68 E68 => td_to ih (by rw [nI_1]) rfl ?_⟩
    rw [E68, lo _ _ _ (by omega) (by omega) (by omega) (by omega) (by omega)]
    funext a b
    rw [hu_app]
    by_cases y : a = 42 ∧ b = t * 4 + i
    · rw [if_pos y, y.1, y.2]
      unfold logH
      rw [if_neg (by omega), if_neg (by omega), if_neg (by omega), if_neg (by omega), if_pos (by omega), show t * 4 + i - t * 4 = i by omega]
    · rw [if_neg y]
      unfold logH
      have : (a = 42 ∧ t * 4 ≤ b ∧ b < t * 4 + (i + 1)) = (a = 42 ∧ t * 4 ≤ b ∧ b < t * 4 + i) := by apply propext; omega
      simp only [this]
  · exact gX3_write_45 hk ⟨fun _ => ⟨rfl, rfl⟩, fun y => absurd (by decide) y⟩
theorem c_L_inside {G : td_G} {d : Nat} {h : td_H} {c σ : nH} (x : Int32) (hx : vp_in x 120) (hi : ∀ i, i < 4 → h 42 (ix x * 4 + i) = ms (inP c σ i)) (ho : ∀ p, p < c 1 0 → σ 0 p = 2 → σ 1 p < 4) : td_C G d mX3_insideAt [.ref 37, .int x] h (eR (ms (inSt c σ 2)) h) := by
  obtain ⟨t, ht, rfl⟩ := vp_in_of hx (by decide)
  have et : ix (nI t) = t := ixn (by omega)
  rw [et] at hi
  refine td_entry rfl (Nat.le_of_ble_eq_true rfl) rfl (gX3_insideAt_0 ?_)
  refine td_for 4 (fun i => [(0, .ref 37), (1, .int (nI t)), (2, .int (ms (fun p => exB (fun j => inP c σ j p) i))), (3, .int (nI i))]) (fun _ => h) (by rw [show ms (fun p => exB (fun j => inP c σ j p) 0) = 0 from ms_none]; rfl) rfl (fun i hi' ih => ?_) ?_
  · refine gX3_insideAt_4 ⟨fun y => absurd (le_of (a := 4) y) (by omega), fun _ => ?_⟩
    have e : nI t * 4 + nI i = nI (t * 4 + i) := by rw [show (4 : Int32) = nI 4 from rfl, pk_mul, nI_add]
    rw [e, ixn (by omega), hi i hi', ms_or]
    exact ⟨vp_in_nI (by omega) (by decide), td_to ih (by rw [nI_1]; rfl) rfl rfl⟩
  · refine gX3_insideAt_4 ⟨fun _ => ⟨?_, rfl⟩, fun y => absurd (by decide) y⟩
    congr 2
    refine ms_ext (fun p _ => ?_)
    by_cases hp : p < c 1 0
    · by_cases h2 : σ 0 p = 2
      · have z := inM_at (m := fun _ => true) hp h2 (ho p hp h2)
        unfold inM at z
        simp only [Bool.true_and] at z
        rw [z]
        unfold inSt
        simp [hp, h2]
      · have z : ¬ inM c σ (fun _ => true) p = true := fun y => h2 (inM_in y).2
        unfold inM at z
        simp only [Bool.true_and] at z
        unfold inSt
        simp [h2]
        simpa using z
    · have z : ¬ inM c σ (fun _ => true) p = true := fun y => hp (inM_in y).1
      unfold inM at z
      simp only [Bool.true_and] at z
      unfold inSt
      simp [hp]
      simpa using z
set_option maxRecDepth 20000 in
set_option maxHeartbeats 4000000 in
theorem gX9_play_0 {G : td_G} {d : Nat} {Post : td_P} {c : nH} {h : td_H} (K : ((h 0 8) = 0 → (1 + 4 < 17 ∧ dP c (1) h ∧ dKn (17 + 1) h ∧ ((jshl 1 (h 1 4)) - 1) = ms (comM c) ∧ (∀ h23 : td_H, (FrC (17) h h23 ∧ ∃ Q, dQ c Q (17) (1) h23 ∧ dV c s0 (17) h23) → (td_J G (d + 5) mX9_play Post 28 [(0, .ref 0), (1, .int 0)] [] h23)))) ∧ (¬ (h 0 8) = 0 → (Post none h))) : td_J G (d + 5) mX9_play Post 0 [(0, .ref 0)] [] h := by
  refine td_aload_n 0 dX9_play_0 rfl ?_
  refine gf_X9_293 rfl kp_0 dX9_play_1 ?_
  obtain ⟨Kt, Kf⟩ := K
  refine td_if_eq (tgt := 8) dX9_play_4 (by decide) (fun q4 => ?_) (fun q4 => ?_)
  · have K := Kt q4
    refine td_aload_n 0 dX9_play_8 rfl ?_
    refine gf_X9_35 rfl kp_0 dX9_play_9 ?_
    refine td_aload_n 0 dX9_play_12 rfl ?_
    refine gf_X9_12 rfl kp_0 dX9_play_13 ?_
    refine td_aload_n 0 dX9_play_16 rfl ?_
    refine gf_X9_12 rfl kp_0 dX9_play_17 ?_
    refine cl_X9_226 rfl kp_1 dX9_play_20 (Nat.le_of_ble_eq_true rfl) (c_P_everyone kp_1) (eR_k ?_)
    refine td_eqs (st2 := [.int ((jshl 1 (h 1 4)) - 1), .ref 1, .ref 17]) rfl ?_
    obtain ⟨e23_0, K⟩ := K
    obtain ⟨e23_1, K⟩ := K
    obtain ⟨e23_2, K⟩ := K
    obtain ⟨e23_3, K⟩ := K
    refine cl_X9_297 rfl kp_17 dX9_play_23 (Nat.le_of_ble_eq_true rfl) (c_C_begin kp_17 kp_1 ((jshl 1 (h 1 4)) - 1) e23_0 e23_1 e23_2 e23_3) ?_
    rintro _ h23 ⟨rfl, f23⟩
    have K := K h23 f23
    refine td_eqs (st2 := []) rfl ?_
    refine td_iconst (v := 0) dX9_play_26 (by decide) ?_
    refine td_istore_n (lv2 := [(0, .ref 0), (1, .int 0)]) dX9_play_27 (by decide) rfl ?_
    exact K
  · have K := Kf q4
    exact td_return rfl dX9_play_7 K
set_option maxRecDepth 20000 in
set_option maxHeartbeats 4000000 in
theorem gX9_play_28 {G : td_G} {d : Nat} {Post : td_P} {q : Nat} {Q : Nat → Nat} {c : nH} {x1 : Int32} {h : td_H} (K : (120 ≤ x1 → (Post none (hu h 0 8 1))) ∧ (¬ 120 ≤ x1 → (dQ c Q (17) q h ∧ dV c (sRun c (ix x1)) (17) h ∧ vp_in x1 120 ∧ (∀ h39 : td_H, (FrD (17) h h39 ∧ dV c (sRun c (ix x1 + 1)) (17) h39) → (td_J G (d + 5) mX9_play Post 28 [(0, .ref 0), (1, .int (x1 + 1))] [] (logH h39 (ix x1) (17) 4)))))) : td_J G (d + 5) mX9_play Post 28 [(0, .ref 0), (1, .int x1)] [] h := by
  refine td_iload_n 1 dX9_play_28 rfl ?_
  refine td_bipush (v := 120) dX9_play_29 (by decide) ?_
  obtain ⟨Kt, Kf⟩ := K
  refine td_icmp_ge (tgt := 60) dX9_play_31 (by decide) (fun q31 => ?_) (fun q31 => ?_)
  · have K := Kt q31
    refine td_aload_n 0 dX9_play_60 rfl ?_
    refine td_iconst (v := 1) dX9_play_61 (by decide) ?_
    refine pf_X9_293 rfl kp_0 (by decide) dX9_play_62 ?_
    exact td_return rfl dX9_play_65 K
  · have K := Kf q31
    refine td_aload_n 0 dX9_play_34 rfl ?_
    refine gf_X9_35 rfl kp_0 dX9_play_35 ?_
    refine td_iload_n 1 dX9_play_38 rfl ?_
    obtain ⟨e39_0, K⟩ := K
    obtain ⟨e39_1, K⟩ := K
    obtain ⟨e39_2, K⟩ := K
    refine cl_X9_300 rfl kp_17 dX9_play_39 (Nat.le_of_ble_eq_true rfl) (c_C_pass x1 e39_0 e39_1 e39_2) ?_
    rintro _ h39 ⟨rfl, f39⟩
    have K := K h39 f39
    refine td_eqs (st2 := []) rfl ?_
    refine td_aload_n 0 dX9_play_42 rfl ?_
    refine gf_X9_42 rfl kp_0 dX9_play_43 ?_
    refine td_iload_n 1 dX9_play_46 rfl ?_
    refine td_aload_n 0 dX9_play_47 rfl ?_
    refine gf_X9_35 rfl kp_0 dX9_play_48 ?_
    refine cl_X9_304 rfl kp_37 dX9_play_51 (Nat.le_of_ble_eq_true rfl) (c_L_write kp_17 x1 e39_2) (eV_k ?_)
    refine td_eqs (st2 := []) rfl ?_
    refine td_iinc 1 (v := x1 + 1) (lv2 := [(0, .ref 0), (1, .int (x1 + 1))]) dX9_play_54 rfl (congrArg (x1 + ·) (by decide)) (by decide) rfl ?_
    refine td_goto (tgt := 28) dX9_play_57 (by decide) ?_
    exact K
/-- what the log says -/
def lgI (c : nH) (T : Nat) (h : td_H) : Prop := ∀ t, t < T → h 38 t = nI (sRun c (t + 1) 8 0) ∧ h 39 t = nI (sRun c (t + 1) 8 1) ∧ h 40 t = ms (inSt c (sRun c (t + 1)) 1) ∧ h 41 t = nI (sRun c (t + 1) 8 2) ∧ ∀ i, i < 4 → h 42 (t * 4 + i) = ms (inP c (sRun c (t + 1)) i)
def plI (c : nH) (h : td_H) : Prop := dV c (sRun c 120) 17 h ∧ lgI c 120 h
def FrP (h h' : td_H) : Prop := ∀ a b, ¬ ((17 ≤ a ∧ a ≤ 31) ∨ (37 ≤ a ∧ a ≤ 42) ∨ (a = 0 ∧ b = 8)) → h' a b = h a b
theorem dV.log {c σ : nH} {h h' : td_H} (x : dV c σ 17 h) (e : ∀ a b, 17 ≤ a → a ≤ 31 → h' a b = h a b) : dV c σ 17 h' := by
  obtain ⟨⟨a1, a2, a3, a4, a5⟩, ⟨w, w1, w2⟩, ⟨d1, d2, d3, d4⟩, hP, hO, f1, f2, hF⟩ := x
  refine ⟨⟨?_, ?_, ?_, ?_, ?_⟩, ⟨w, ?_, w2⟩, ⟨?_, ?_, ?_, ?_⟩, fun i hi => ⟨?_, ?_⟩, fun p hp h2 => ?_, ?_, ?_, fun p hp => ⟨?_, ?_, ?_, ?_⟩⟩
  · rw [e _ _ (by omega) (by omega)]; exact a1
  · rw [e _ _ (by omega) (by omega)]; exact a2
  · rw [e _ _ (by omega) (by omega)]; exact a3
  · rw [e _ _ (by omega) (by omega)]; exact a4
  · rw [e _ _ (by omega) (by omega)]; exact a5
  · rw [e _ _ (by omega) (by omega)]; exact w1
  · rw [e _ _ (by omega) (by omega)]; exact d1
  · rw [e _ _ (by omega) (by omega)]; exact d2
  · rw [e _ _ (by omega) (by omega)]; exact d3
  · rw [e _ _ (by omega) (by omega)]; exact d4
  · rw [e _ _ (by omega) (by omega)]; exact (hP i hi).1
  · rw [e _ _ (by omega) (by omega)]; exact (hP i hi).2
  · rw [e _ _ (by omega) (by omega)]; exact hO p hp h2
  · rw [e _ _ (by omega) (by omega)]; exact f1
  · rw [e _ _ (by omega) (by omega)]; exact f2
  · rw [e _ _ (by omega) (by omega)]; exact (hF p hp).1
  · rw [e _ _ (by omega) (by omega)]; exact (hF p hp).2.1
  · rw [e _ _ (by omega) (by omega)]; exact (hF p hp).2.2.1
  · rw [e _ _ (by omega) (by omega)]; exact (hF p hp).2.2.2
theorem com_all {c : nH} (h : 12 ≤ c 5 0) (hn : c 1 0 ≤ 12) : (jshl 1 (nI (c 1 0))) - 1 = ms (comM c) := by
  rw [ms_all hn]
  refine ms_ext (fun j _ => ?_)
  unfold comM
  by_cases y : j < c 1 0
  · have : ¬ j = c 5 0 := by omega
    simp [y, this]
  · simp [y]
theorem c_X_play {G : td_G} {d : Nat} {h : td_H} {c : nH} (hP : dP c 1 h) (h5 : 12 ≤ c 5 0) (hK : dKn 18 h) (hp : h 0 8 = 0 ∨ (h 0 8 = 1 ∧ plI c h)) : td_C G (d + 5) mX9_play [.ref 0] h (fun r h' => r = none ∧ FrP h h' ∧ h' 0 8 = 1 ∧ plI c h' ∧ dKn 18 h') := by
  have hn := hP.1.n
  refine td_entry rfl (Nat.le_of_ble_eq_true rfl) rfl (gX9_play_0 (c := c) ⟨fun y => ⟨by decide, hP, hK, ?_, fun h23 hh => ?_⟩, fun y => ?_⟩)
  · rw [hP.2.2.1]; exact com_all h5 hn
  · obtain ⟨hF, Q, hQ, hV⟩ := hh
    refine td_forH 120 (fun t => [(0, .ref 0), (1, .int (nI t))]) (fun t h' => FrP h h' ∧ dQ c Q 17 1 h' ∧ dV c (sRun c t) 17 h' ∧ lgI c t h') rfl ⟨fun a b n => hF a b (by omega), hQ, hV, fun t ht => absurd ht (by omega)⟩ (fun t ht h' hI ih => ?_) (fun h' hI => ?_)
    · obtain ⟨i0, iQ, iV, iL⟩ := hI
      have et : ix (nI t) = t := ixn (by omega)
      refine gX9_play_28 (c := c) (Q := Q) (q := 1) ⟨fun y => absurd (le_of (a := 120) y) (by omega), fun _ => ?_⟩
      rw [et]
      refine ⟨iQ, iV, vp_in_nI ht (by decide), fun h39 hh => ?_⟩
      have e39 := hh.1
      have V := hh.2
      have lo : ∀ a b, ¬ (38 ≤ a ∧ a ≤ 42) → logH h39 t 17 4 a b = h39 a b := fun a b n => by
        unfold logH
        rw [if_neg (by omega), if_neg (by omega), if_neg (by omega), if_neg (by omega), if_neg (by omega)]
      refine td_to (ih _ ⟨fun a b n => ?_, ?_, V.log (fun a b h1 h2 => lo a b (by omega)), fun u hu => ?_⟩) (by rw [nI_1]) rfl rfl
      · rw [lo _ _ (by omega), hh.1 _ _ (by unfold dynP; omega)]; exact i0 a b n
      · have q39 := hh.1.Q iQ
        obtain ⟨a1, a2, a3, a4, a5, a6, a7, a8, a9, a10, a11, a12, a13, a14⟩ := q39
        refine ⟨a1, a2, a3, ?_, ?_, ?_, ?_, ?_, ?_, ?_, fun s hs => ?_, fun t ht => ?_, a13, fun i hi => ?_⟩
        · rw [lo _ _ (by omega)]; exact a4
        · obtain ⟨w, b1, b2, b3⟩ := a5
          refine ⟨w, fun i hi => ?_, ?_, fun p hp => ?_⟩
          · rw [lo _ _ (by omega)]; exact b1 i hi
          · rw [lo _ _ (by omega)]; exact b2
          · rw [lo _ _ (by omega), lo _ _ (by omega), lo _ _ (by omega)]; exact b3 p hp
        · exact a6.fr (lo _ _ (by omega)) (lo _ _ (by omega)) (fun a b ha => lo _ _ (by omega))
        · rw [lo _ _ (by omega)]; exact a7
        · rw [lo _ _ (by omega)]; exact a8
        · rw [lo _ _ (by omega)]; exact a9
        · rw [lo _ _ (by omega)]; exact a10
        · rw [lo _ _ (by omega)]; exact a11 s hs
        · rw [lo _ _ (by omega)]; exact a12 t ht
        · rw [lo _ _ (by omega)]; exact a14 i hi
      · by_cases z : u = t
        · subst z
          refine ⟨?_, ?_, ?_, ?_, fun i hi => ?_⟩
          · unfold logH; rw [if_pos ⟨rfl, rfl⟩]; exact V.2.2.1.1
          · unfold logH; rw [if_neg (by omega), if_pos ⟨rfl, rfl⟩]; exact V.1.2.2.1
          · unfold logH; rw [if_neg (by omega), if_neg (by omega), if_pos ⟨rfl, rfl⟩]; exact V.1.1
          · unfold logH; rw [if_neg (by omega), if_neg (by omega), if_neg (by omega), if_pos ⟨rfl, rfl⟩]; exact V.1.2.2.2.1
          · unfold logH; rw [if_neg (by omega), if_neg (by omega), if_neg (by omega), if_neg (by omega), if_pos (by omega), show u * 4 + i - u * 4 = i by omega]; exact (V.2.2.2.1 i hi).1
        · have iLu := iL u (by omega)
          have ke : ∀ a b, 37 ≤ a → a ≤ 42 → h39 a b = h' a b := fun a b h1 h2 => e39 a b (by unfold dynP; omega)
          refine ⟨?_, ?_, ?_, ?_, fun i hi => ?_⟩
          · unfold logH; rw [if_neg (by omega), if_neg (by omega), if_neg (by omega), if_neg (by omega), if_neg (by omega), ke _ _ (by omega) (by omega)]; exact iLu.1
          · unfold logH; rw [if_neg (by omega), if_neg (by omega), if_neg (by omega), if_neg (by omega), if_neg (by omega), ke _ _ (by omega) (by omega)]; exact iLu.2.1
          · unfold logH; rw [if_neg (by omega), if_neg (by omega), if_neg (by omega), if_neg (by omega), if_neg (by omega), ke _ _ (by omega) (by omega)]; exact iLu.2.2.1
          · unfold logH; rw [if_neg (by omega), if_neg (by omega), if_neg (by omega), if_neg (by omega), if_neg (by omega), ke _ _ (by omega) (by omega)]; exact iLu.2.2.2.1
          · unfold logH; rw [if_neg (by omega), if_neg (by omega), if_neg (by omega), if_neg (by omega), if_neg (by omega), ke _ _ (by omega) (by omega)]; exact iLu.2.2.2.2 i hi
    · obtain ⟨i0, iQ, iV, iL⟩ := hI
      refine gX9_play_28 (c := c) (Q := Q) (q := 1) ⟨fun _ => ⟨rfl, fun a b n => ?_, ?_, ⟨iV.log (fun a b h1 h2 => by rw [hu_app, if_neg (by omega)]), fun u hu => ?_⟩, ?_⟩, fun y => absurd (by decide) y⟩
      · rw [hu_app, if_neg (by omega)]; exact i0 a b n
      · rw [hu_app, if_pos ⟨rfl, rfl⟩]
      · have iLu := iL u hu
        refine ⟨?_, ?_, ?_, ?_, fun i hi => ?_⟩ <;> rw [hu_app, if_neg (by omega)]
        · exact iLu.1
        · exact iLu.2.1
        · exact iLu.2.2.1
        · exact iLu.2.2.2.1
        · exact iLu.2.2.2.2 i hi
      · rcases iQ.kn with z | ⟨L, O, z⟩
        · left; rw [hu_app, if_neg (by omega)]; exact z
        · right; exact ⟨L, O, z.fr (by rw [hu_app, if_neg (by omega)]) (by rw [hu_app, if_neg (by omega)]) (fun a b ha => by rw [hu_app, if_neg (by omega)])⟩
  · rcases hp with z | z
    · exact absurd z y
    · exact ⟨rfl, fun _ _ _ => rfl, z.1, z.2, hK⟩
