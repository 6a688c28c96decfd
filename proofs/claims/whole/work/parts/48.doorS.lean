/-! Door: plans -/
set_option maxRecDepth 20000 in
set_option maxHeartbeats 4000000 in
theorem gX5_add_0 {G : td_G} {d : Nat} {Post : td_P} {k0 : Nat} {x1 x2 x3 : Int32} {h : td_H} (hk0 : td_kd k0 = 5) (K : (¬ 12 ≤ (h k0 4) → (vp_in (h k0 4) 12 ∧ (vp_in ((hu h (k0 + 2) (ix (h k0 4)) x1) k0 4) 12 ∧ (vp_in ((hu (hu h (k0 + 2) (ix (h k0 4)) x1) (k0 + 3) (ix ((hu h (k0 + 2) (ix (h k0 4)) x1) k0 4)) x2) k0 4) 12 ∧ True)))) ∧ (Post none (if 12 ≤ (h k0 4) then h else (hu (hu (hu (hu h (k0 + 2) (ix (h k0 4)) x1) (k0 + 3) (ix ((hu h (k0 + 2) (ix (h k0 4)) x1) k0 4)) x2) (k0 + 4) (ix ((hu (hu h (k0 + 2) (ix (h k0 4)) x1) (k0 + 3) (ix ((hu h (k0 + 2) (ix (h k0 4)) x1) k0 4)) x2) k0 4)) x3) k0 4 (((hu (hu (hu h (k0 + 2) (ix (h k0 4)) x1) (k0 + 3) (ix ((hu h (k0 + 2) (ix (h k0 4)) x1) k0 4)) x2) (k0 + 4) (ix ((hu (hu h (k0 + 2) (ix (h k0 4)) x1) (k0 + 3) (ix ((hu h (k0 + 2) (ix (h k0 4)) x1) k0 4)) x2) k0 4)) x3) k0 4) + 1)) : td_H))) : td_J G d mX5_add Post 0 [(0, .ref k0), (1, .int x1), (2, .int x2), (3, .int x3)] [] h := by
  refine td_aload_n 0 dX5_add_0 rfl ?_
  refine gf_X5_33 rfl hk0 dX5_add_1 ?_
  refine td_bipush (v := 12) dX5_add_4 (by decide) ?_
  obtain ⟨Ks6, K⟩ := K
  have KJ49 : td_J G d mX5_add Post 49 [(0, .ref k0), (1, .int x1), (2, .int x2), (3, .int x3)] [] (if 12 ≤ (h k0 4) then h else (hu (hu (hu (hu h (k0 + 2) (ix (h k0 4)) x1) (k0 + 3) (ix ((hu h (k0 + 2) (ix (h k0 4)) x1) k0 4)) x2) (k0 + 4) (ix ((hu (hu h (k0 + 2) (ix (h k0 4)) x1) (k0 + 3) (ix ((hu h (k0 + 2) (ix (h k0 4)) x1) k0 4)) x2) k0 4)) x3) k0 4 (((hu (hu (hu h (k0 + 2) (ix (h k0 4)) x1) (k0 + 3) (ix ((hu h (k0 + 2) (ix (h k0 4)) x1) k0 4)) x2) (k0 + 4) (ix ((hu (hu h (k0 + 2) (ix (h k0 4)) x1) (k0 + 3) (ix ((hu h (k0 + 2) (ix (h k0 4)) x1) k0 4)) x2) k0 4)) x3) k0 4) + 1)) : td_H) := by
    exact td_return rfl dX5_add_49 K
  refine td_icmp_ge (tgt := 49) dX5_add_6 (by decide) (fun q6 => ?_) (fun q6 => ?_)
  · skip
    exact td_to KJ49 rfl rfl (by rw [show (if 12 ≤ (h k0 4) then h else (hu (hu (hu (hu h (k0 + 2) (ix (h k0 4)) x1) (k0 + 3) (ix ((hu h (k0 + 2) (ix (h k0 4)) x1) k0 4)) x2) (k0 + 4) (ix ((hu (hu h (k0 + 2) (ix (h k0 4)) x1) (k0 + 3) (ix ((hu h (k0 + 2) (ix (h k0 4)) x1) k0 4)) x2) k0 4)) x3) k0 4 (((hu (hu (hu h (k0 + 2) (ix (h k0 4)) x1) (k0 + 3) (ix ((hu h (k0 + 2) (ix (h k0 4)) x1) k0 4)) x2) (k0 + 4) (ix ((hu (hu h (k0 + 2) (ix (h k0 4)) x1) (k0 + 3) (ix ((hu h (k0 + 2) (ix (h k0 4)) x1) k0 4)) x2) k0 4)) x3) k0 4) + 1)) : td_H) = _ from if_pos q6])
  · have K := Ks6 q6
    refine td_aload_n 0 dX5_add_9 rfl ?_
    refine gf_X5_15 rfl hk0 dX5_add_10 ?_
    refine td_aload_n 0 dX5_add_13 rfl ?_
    refine gf_X5_33 rfl hk0 dX5_add_14 ?_
    refine td_iload_n 1 dX5_add_17 rfl ?_
    obtain ⟨e18, K⟩ := K
    refine td_iastc (j := (ix (h k0 4))) (kd_5_1 hk0) (by decide) e18 rfl dX5_add_18 ?_
    refine td_aload_n 0 dX5_add_19 rfl ?_
    refine gf_X5_18 rfl hk0 dX5_add_20 ?_
    refine td_aload_n 0 dX5_add_23 rfl ?_
    refine gf_X5_33 rfl hk0 dX5_add_24 ?_
    refine td_iload_n 2 dX5_add_27 rfl ?_
    obtain ⟨e28, K⟩ := K
    refine td_iastc (j := (ix ((hu h (k0 + 2) (ix (h k0 4)) x1) k0 4))) (kd_5_2 hk0) (by decide) e28 rfl dX5_add_28 ?_
    refine td_aload_n 0 dX5_add_29 rfl ?_
    refine gf_X5_21 rfl hk0 dX5_add_30 ?_
    refine td_aload_n 0 dX5_add_33 rfl ?_
    refine gf_X5_33 rfl hk0 dX5_add_34 ?_
    refine td_iload_n 3 dX5_add_37 rfl ?_
    obtain ⟨e38, K⟩ := K
    refine td_iastc (j := (ix ((hu (hu h (k0 + 2) (ix (h k0 4)) x1) (k0 + 3) (ix ((hu h (k0 + 2) (ix (h k0 4)) x1) k0 4)) x2) k0 4))) (kd_5_3 hk0) (by decide) e38 rfl dX5_add_38 ?_
    refine td_aload_n 0 dX5_add_39 rfl ?_
    refine td_dup dX5_add_40 rfl ?_
    refine gf_X5_33 rfl hk0 dX5_add_41 ?_
    refine td_iconst (v := 1) dX5_add_44 (by decide) ?_
    refine td_iadd dX5_add_45 ?_
    refine pf_X5_33 rfl hk0 dX5_add_46 ?_
    exact td_to KJ49 rfl rfl (by rw [show (if 12 ≤ (h k0 4) then h else (hu (hu (hu (hu h (k0 + 2) (ix (h k0 4)) x1) (k0 + 3) (ix ((hu h (k0 + 2) (ix (h k0 4)) x1) k0 4)) x2) (k0 + 4) (ix ((hu (hu h (k0 + 2) (ix (h k0 4)) x1) (k0 + 3) (ix ((hu h (k0 + 2) (ix (h k0 4)) x1) k0 4)) x2) k0 4)) x3) k0 4 (((hu (hu (hu h (k0 + 2) (ix (h k0 4)) x1) (k0 + 3) (ix ((hu h (k0 + 2) (ix (h k0 4)) x1) k0 4)) x2) (k0 + 4) (ix ((hu (hu h (k0 + 2) (ix (h k0 4)) x1) (k0 + 3) (ix ((hu h (k0 + 2) (ix (h k0 4)) x1) k0 4)) x2) k0 4)) x3) k0 4) + 1)) : td_H) = _ from if_neg q6])
set_option maxRecDepth 20000 in
set_option maxHeartbeats 4000000 in
theorem gX5_become_0 {G : td_G} {d : Nat} {Post : td_P} {k0 k1 : Nat} {h : td_H} (hk0 : td_kd k0 = 5) (hk1 : td_kd k1 = 5) (K : ∀ H12 : td_H, H12 = copyH h ((k1 + 1)) ((k0 + 1)) 9 → (∀ H27 : td_H, H27 = copyH H12 ((k1 + 2)) ((k0 + 2)) 12 → (∀ H42 : td_H, H42 = copyH H27 ((k1 + 3)) ((k0 + 3)) 12 → (∀ H57 : td_H, H57 = copyH H42 ((k1 + 4)) ((k0 + 4)) 12 → (Post none (hu H57 k0 4 (H57 k1 4))))))) : td_J G (d + 1) mX5_become Post 0 [(0, .ref k0), (1, .ref k1)] [] h := by
  refine td_aload_n 1 dX5_become_0 rfl ?_
  refine gf_X5_9 rfl hk1 dX5_become_1 ?_
  refine td_iconst (v := 0) dX5_become_4 (by decide) ?_
  refine td_aload_n 0 dX5_become_5 rfl ?_
  refine gf_X5_9 rfl hk0 dX5_become_6 ?_
  refine td_iconst (v := 0) dX5_become_9 (by decide) ?_
  refine td_bipush (v := 9) dX5_become_10 (by decide) ?_
  refine cc_X5_27 (q0 := (k1 + 1)) (q1 := (k0 + 1)) (N := 9) rfl rfl (kd_5_0 hk1) (kd_5_0 hk0) (by decide) (by decide) ⟨by decide, by decide⟩ dX5_become_12 (Nat.le_of_ble_eq_true rfl) ?_
  obtain ⟨H12, E12⟩ : ∃ z : td_H, z = copyH h ((k1 + 1)) ((k0 + 1)) 9 := ⟨_, rfl⟩
  have K := K H12 E12
  refine td_eqh E12 ?_
  refine td_aload_n 1 dX5_become_15 rfl ?_
  refine gf_X5_15 rfl hk1 dX5_become_16 ?_
  refine td_iconst (v := 0) dX5_become_19 (by decide) ?_
  refine td_aload_n 0 dX5_become_20 rfl ?_
  refine gf_X5_15 rfl hk0 dX5_become_21 ?_
  refine td_iconst (v := 0) dX5_become_24 (by decide) ?_
  refine td_bipush (v := 12) dX5_become_25 (by decide) ?_
  refine cc_X5_27 (q0 := (k1 + 2)) (q1 := (k0 + 2)) (N := 12) rfl rfl (kd_5_1 hk1) (kd_5_1 hk0) (by decide) (by decide) ⟨by decide, by decide⟩ dX5_become_27 (Nat.le_of_ble_eq_true rfl) ?_
  obtain ⟨H27, E27⟩ : ∃ z : td_H, z = copyH H12 ((k1 + 2)) ((k0 + 2)) 12 := ⟨_, rfl⟩
  have K := K H27 E27
  refine td_eqh E27 ?_
  refine td_aload_n 1 dX5_become_30 rfl ?_
  refine gf_X5_18 rfl hk1 dX5_become_31 ?_
  refine td_iconst (v := 0) dX5_become_34 (by decide) ?_
  refine td_aload_n 0 dX5_become_35 rfl ?_
  refine gf_X5_18 rfl hk0 dX5_become_36 ?_
  refine td_iconst (v := 0) dX5_become_39 (by decide) ?_
  refine td_bipush (v := 12) dX5_become_40 (by decide) ?_
  refine cc_X5_27 (q0 := (k1 + 3)) (q1 := (k0 + 3)) (N := 12) rfl rfl (kd_5_2 hk1) (kd_5_2 hk0) (by decide) (by decide) ⟨by decide, by decide⟩ dX5_become_42 (Nat.le_of_ble_eq_true rfl) ?_
  obtain ⟨H42, E42⟩ : ∃ z : td_H, z = copyH H27 ((k1 + 3)) ((k0 + 3)) 12 := ⟨_, rfl⟩
  have K := K H42 E42
  refine td_eqh E42 ?_
  refine td_aload_n 1 dX5_become_45 rfl ?_
  refine gf_X5_21 rfl hk1 dX5_become_46 ?_
  refine td_iconst (v := 0) dX5_become_49 (by decide) ?_
  refine td_aload_n 0 dX5_become_50 rfl ?_
  refine gf_X5_21 rfl hk0 dX5_become_51 ?_
  refine td_iconst (v := 0) dX5_become_54 (by decide) ?_
  refine td_bipush (v := 12) dX5_become_55 (by decide) ?_
  refine cc_X5_27 (q0 := (k1 + 4)) (q1 := (k0 + 4)) (N := 12) rfl rfl (kd_5_3 hk1) (kd_5_3 hk0) (by decide) (by decide) ⟨by decide, by decide⟩ dX5_become_57 (Nat.le_of_ble_eq_true rfl) ?_
  obtain ⟨H57, E57⟩ : ∃ z : td_H, z = copyH H42 ((k1 + 4)) ((k0 + 4)) 12 := ⟨_, rfl⟩
  have K := K H57 E57
  refine td_eqh E57 ?_
  refine td_aload_n 0 dX5_become_60 rfl ?_
  refine td_aload_n 1 dX5_become_61 rfl ?_
  refine gf_X5_33 rfl hk1 dX5_become_62 ?_
  refine pf_X5_33 rfl hk0 dX5_become_65 ?_
  exact td_return rfl dX5_become_68 K
set_option maxRecDepth 20000 in
set_option maxHeartbeats 4000000 in
theorem gX5_fromStreet_0 {G : td_G} {d : Nat} {Post : td_P} {k0 : Nat} {h : td_H} (hk0 : td_kd k0 = 5) (K : td_J G d mX5_fromStreet Post 4 [(0, .ref k0), (1, .int 0), (2, .int 0)] [] h) : td_J G d mX5_fromStreet Post 0 [(0, .ref k0)] [] h := by
  refine td_iconst (v := 0) dX5_fromStreet_0 (by decide) ?_
  refine td_istore_n (lv2 := [(0, .ref k0), (1, .int 0)]) dX5_fromStreet_1 (by decide) rfl ?_
  refine td_iconst (v := 0) dX5_fromStreet_2 (by decide) ?_
  refine td_istore_n (lv2 := [(0, .ref k0), (1, .int 0), (2, .int 0)]) dX5_fromStreet_3 (by decide) rfl ?_
  exact K
set_option maxRecDepth 20000 in
set_option maxHeartbeats 4000000 in
theorem gX5_fromStreet_4 {G : td_G} {d : Nat} {Post : td_P} {k0 : Nat} {x1 x2 : Int32} {h : td_H} (hk0 : td_kd k0 = 5) (K : ((h k0 4) ≤ x2 → (Post (some (.int x1)) h)) ∧ (¬ (h k0 4) ≤ x2 → (vp_in x2 12 ∧ (td_J G d mX5_fromStreet Post 4 [(0, .ref k0), (1, .int (if (h (k0 + 3) (ix x2)) = 0 then (x1 + 1) else x1 : Int32)), (2, .int (x2 + 1))] [] h)))) : td_J G d mX5_fromStreet Post 4 [(0, .ref k0), (1, .int x1), (2, .int x2)] [] h := by
  refine td_iload_n 2 dX5_fromStreet_4 rfl ?_
  refine td_aload_n 0 dX5_fromStreet_5 rfl ?_
  refine gf_X5_33 rfl hk0 dX5_fromStreet_6 ?_
  obtain ⟨Kt, Kf⟩ := K
  refine td_icmp_ge (tgt := 30) dX5_fromStreet_9 (by decide) (fun q9 => ?_) (fun q9 => ?_)
  · have K := Kt q9
    refine td_iload_n 1 dX5_fromStreet_30 rfl ?_
    exact td_ireturn rfl dX5_fromStreet_31 K
  · have K := Kf q9
    refine td_aload_n 0 dX5_fromStreet_12 rfl ?_
    refine gf_X5_18 rfl hk0 dX5_fromStreet_13 ?_
    refine td_iload_n 2 dX5_fromStreet_16 rfl ?_
    obtain ⟨e17, K⟩ := K
    refine td_ialdc (j := (ix x2)) (kd_5_2 hk0) (by decide) e17 rfl dX5_fromStreet_17 ?_
    have KJ24 : td_J G d mX5_fromStreet Post 24 [(0, .ref k0), (1, .int (if (h (k0 + 3) (ix x2)) = 0 then (x1 + 1) else x1 : Int32)), (2, .int x2)] [] h := by
      refine td_iinc 2 (v := x2 + 1) (lv2 := [(0, .ref k0), (1, .int (if (h (k0 + 3) (ix x2)) = 0 then (x1 + 1) else x1 : Int32)), (2, .int (x2 + 1))]) dX5_fromStreet_24 rfl (congrArg (x2 + ·) (by decide)) (by decide) rfl ?_
      refine td_goto (tgt := 4) dX5_fromStreet_27 (by decide) ?_
      exact K
    refine td_if_ne (tgt := 24) dX5_fromStreet_18 (by decide) (fun q18 => ?_) (fun q18 => ?_)
    · skip
      exact td_to KJ24 (by rw [show (if (h (k0 + 3) (ix x2)) = 0 then (x1 + 1) else x1 : Int32) = _ from if_neg q18]) rfl rfl
    · skip
      refine td_iinc 1 (v := x1 + 1) (lv2 := [(0, .ref k0), (1, .int (x1 + 1)), (2, .int x2)]) dX5_fromStreet_21 rfl (congrArg (x1 + ·) (by decide)) (by decide) rfl ?_
      exact td_to KJ24 (by rw [show (if (h (k0 + 3) (ix x2)) = 0 then (x1 + 1) else x1 : Int32) = _ from if_pos q18]) rfl rfl
def addG (g : nH) (t s κ : Nat) : nH := nu (nu (nu (nu g 4 (g 1 0) t) 2 (g 1 0) s) 3 (g 1 0) κ) 1 0 (g 1 0 + 1)
theorem addG_0 (g : nH) (t s κ i : Nat) : addG g t s κ 0 i = g 0 i := by simp [addG, nu_app]
theorem addG_5 (g : nH) (t s κ i : Nat) : addG g t s κ 5 i = g 5 i := by simp [addG, nu_app]
theorem addG_1 (g : nH) (t s κ : Nat) : addG g t s κ 1 0 = g 1 0 + 1 := by simp [addG, nu_app]
theorem addG_2 (g : nH) (t s κ p : Nat) : addG g t s κ 2 p = if p = g 1 0 then s else g 2 p := by simp [addG, nu_app]
theorem addG_3 (g : nH) (t s κ p : Nat) : addG g t s κ 3 p = if p = g 1 0 then κ else g 3 p := by simp [addG, nu_app]
theorem addG_4 (g : nH) (t s κ p : Nat) : addG g t s κ 4 p = if p = g 1 0 then t else g 4 p := by simp [addG, nu_app]
theorem wfC.add {g : nH} (h : wfC g) {t s κ : Nat} (hn : g 1 0 < 12) (ht : t < 120) (hs : s < 2) (hκ : κ < 6) : wfC (addG g t s κ) := by
  obtain ⟨a0, a1, a2, a3, a4, a5, a6, a7, a8, a9, a10⟩ := h
  unfold wfC
  rw [addG_1]
  simp only [addG_0]
  refine ⟨a0, a1, a2, a3, a4, a5, a6, a7, a8, by omega, fun p hp => ?_⟩
  rw [addG_2, addG_3, addG_4]
  by_cases e : p = g 1 0
  · rw [if_pos e, if_pos e, if_pos e]; exact ⟨hs, hκ, ht⟩
  · rw [if_neg e, if_neg e, if_neg e]; exact a10 p (by omega)
def addH (h : td_H) (q n : Nat) (x1 x2 x3 : Int32) : td_H := hu (hu (hu (hu h (q + 2) n x1) (q + 3) n x2) (q + 4) n x3) q 4 (nI (n + 1))
def FrQ (q : Nat) (h h' : td_H) : Prop := ∀ a b, ¬ (q ≤ a ∧ a ≤ q + 4) → h' a b = h a b
theorem addH_fr (h : td_H) (q n : Nat) (x1 x2 x3 : Int32) : FrQ q h (addH h q n x1 x2 x3) := fun a b z => by
  unfold addH
  rw [hu_app, if_neg (by omega), hu_app, if_neg (by omega), hu_app, if_neg (by omega), hu_app, if_neg (by omega)]
theorem dP.add {g : nH} {q : Nat} {h : td_H} (x : dP g q h) {t s κ : Nat} (hn : g 1 0 < 12) (ht : t < 120) (hs : s < 2) (hκ : κ < 6) : dP (addG g t s κ) q (addH h q (g 1 0) (nI t) (nI s) (nI κ)) := by
  obtain ⟨w, a1, a2, a3⟩ := x
  refine ⟨w.add hn ht hs hκ, fun i hi => ?_, ?_, fun p hp => ?_⟩
  · rw [addG_0]
    unfold addH
    rw [hu_app, if_neg (by omega), hu_app, if_neg (by omega), hu_app, if_neg (by omega), hu_app, if_neg (by omega)]
    exact a1 i hi
  · rw [addG_1]
    unfold addH
    rw [hu_app, if_pos ⟨rfl, rfl⟩]
  · rw [addG_1] at hp
    rw [addG_2, addG_3, addG_4]
    unfold addH
    by_cases e : p = g 1 0
    · subst e
      simp [hu_app]
    · have e2 := a3 p (by omega)
      simp [hu_app, e]
      exact e2
theorem c_P_add {G : td_G} {d : Nat} {h : td_H} {q : Nat} (hq : td_kd q = 5) (n : Nat) (x1 x2 x3 : Int32) (h4 : h q 4 = nI n) (hn : n < 12) : td_C G d mX5_add [.ref q, .int x1, .int x2, .int x3] h (eV (addH h q n x1 x2 x3)) := by
  have vn : vp_in (nI n) 12 := vp_in_nI hn (by decide)
  have en : ix (nI n) = n := ixn (by omega)
  refine td_entry rfl (Nat.le_of_ble_eq_true rfl) rfl (gX5_add_0 hq ?_)
  have e1 : (hu h (q + 2) n x1) q 4 = nI n := by rw [hu_app, if_neg (by omega)]; exact h4
  have e2 : (hu (hu h (q + 2) n x1) (q + 3) n x2) q 4 = nI n := by rw [hu_app, if_neg (by omega)]; exact e1
  have e3 : (hu (hu (hu h (q + 2) n x1) (q + 3) n x2) (q + 4) n x3) q 4 = nI n := by rw [hu_app, if_neg (by omega)]; exact e2
  rw [h4, en, e1, en, e2, en, e3, nI_1, if_neg (fun y => by have := le_of (a := 12) y; omega)]
  exact ⟨fun _ => ⟨vn, vn, vn, trivial⟩, rfl, rfl⟩
theorem c_P_become {G : td_G} {d : Nat} {h : td_H} {q q2 : Nat} (hq : td_kd q = 5) (hq2 : td_kd q2 = 5) (hs : q + 4 < q2 ∨ q2 + 4 < q) : td_C G (d + 1) mX5_become [.ref q, .ref q2] h (fun r h' => r = none ∧ FrQ q h h' ∧ ∀ c, dP c q2 h → dP c q h') := by
  refine td_entry rfl (Nat.le_of_ble_eq_true rfl) rfl (gX5_become_0 hq hq2 (fun H12 E12 H27 E27 H42 E42 H57 E57 => ⟨rfl, fun a b n => ?_, fun c hP => ?_⟩))
  · rw [hu_app, if_neg (by omega), E57, E42, E27, E12]
    unfold copyH
    rw [if_neg (by omega), if_neg (by omega), if_neg (by omega), if_neg (by omega)]
  · obtain ⟨w, a1, a2, a3⟩ := hP
    have w1 : ∀ b, H57 (q + 1) b = if b < 9 then h (q2 + 1) b else h (q + 1) b := fun b => by
      rw [E57, E42, E27, E12]
      unfold copyH
      rw [if_neg (by omega), if_neg (by omega), if_neg (by omega)]
      by_cases z : b < 9
      · rw [if_pos ⟨rfl, z⟩, if_pos z]
      · rw [if_neg (fun y => z y.2), if_neg z]
    have w2 : ∀ b, b < 12 → H57 (q + 2) b = h (q2 + 2) b := fun b hb => by
      rw [E57, E42, E27, E12]
      unfold copyH
      rw [if_neg (by omega), if_neg (by omega), if_pos ⟨rfl, hb⟩, if_neg (by omega)]
    have w3 : ∀ b, b < 12 → H57 (q + 3) b = h (q2 + 3) b := fun b hb => by
      rw [E57, E42, E27, E12]
      unfold copyH
      rw [if_neg (by omega), if_pos ⟨rfl, hb⟩, if_neg (by omega), if_neg (by omega)]
    have w4 : ∀ b, b < 12 → H57 (q + 4) b = h (q2 + 4) b := fun b hb => by
      rw [E57, E42, E27, E12]
      unfold copyH
      rw [if_pos ⟨rfl, hb⟩, if_neg (by omega), if_neg (by omega), if_neg (by omega)]
    have w0 : H57 q2 4 = h q2 4 := by
      rw [E57, E42, E27, E12]
      unfold copyH
      rw [if_neg (by omega), if_neg (by omega), if_neg (by omega), if_neg (by omega)]
    have hn := w.n
    refine ⟨w, fun i hi => ?_, ?_, fun p hp => ⟨?_, ?_, ?_⟩⟩
    · rw [hu_app, if_neg (by omega), w1, if_pos hi]; exact a1 i hi
    · rw [hu_app, if_pos ⟨rfl, rfl⟩, w0]; exact a2
    · rw [hu_app, if_neg (by omega), w2 p (by omega)]; exact (a3 p hp).1
    · rw [hu_app, if_neg (by omega), w3 p (by omega)]; exact (a3 p hp).2.1
    · rw [hu_app, if_neg (by omega), w4 p (by omega)]; exact (a3 p hp).2.2
theorem c_P_street {G : td_G} {d : Nat} {h : td_H} {q : Nat} (hq : td_kd q = 5) (c : nH) (hP : dP c q h) : td_C G d mX5_fromStreet [.ref q] h (eR (nI (fb_ct (fun p => decide (c 2 p = 0)) (c 1 0))) h) := by
  have hn := hP.1.n
  have h4 := hP.2.2.1
  refine td_entry rfl (Nat.le_of_ble_eq_true rfl) rfl (gX5_fromStreet_0 hq ?_)
  refine td_for (c 1 0) (fun i => [(0, .ref q), (1, .int (nI (fb_ct (fun p => decide (c 2 p = 0)) i))), (2, .int (nI i))]) (fun _ => h) rfl rfl (fun i hi ih => ?_) ?_
  · refine gX5_fromStreet_4 hq ⟨fun y => absurd (le_of (by rw [h4] at y; exact y)) (by omega), fun _ => ⟨vp_in_nI (by omega) (by decide), td_to ih ?_ rfl rfl⟩⟩
    have hp := hP.1.p hi
    rw [ixn (by omega), (hP.2.2.2 i hi).2.1, nI_1, nI_1, ite_c (p := nI (c 2 i) = 0) (q := c 2 i = 0) (nI_eq (b := 0) (by omega) (by decide)) _ _, fb_ct_succ]
    by_cases y : c 2 i = 0
    · rw [if_pos y, if_pos (by simp [y])]
    · rw [if_neg y, if_neg (by simp [y])]; rfl
  · exact gX5_fromStreet_4 hq ⟨fun _ => ⟨rfl, rfl⟩, fun y => absurd (nle_of (by rw [h4] at y; exact y)) (by omega)⟩
/-! Door: sheets -/
set_option maxRecDepth 20000 in
set_option maxHeartbeats 4000000 in
theorem gX6_isThere_0 {G : td_G} {d : Nat} {Post : td_P} {k0 : Nat} {h : td_H} (hk0 : td_kd k0 = 6) (K : ((if (h k0 1) = (-1) then 0 else 1 : Int32) = 0 ∨ (if (h k0 1) = (-1) then 0 else 1 : Int32) = 1) ∧ Post (some (.int (if (h k0 1) = (-1) then 0 else 1 : Int32))) h) : td_J G d mX6_isThere Post 0 [(0, .ref k0)] [] h := by
  refine td_aload_n 0 dX6_isThere_0 rfl ?_
  refine gf_X6_15 rfl hk0 dX6_isThere_1 ?_
  refine td_iconst (v := (-1)) dX6_isThere_4 (by decide) ?_
  have KJ13 : td_J G d mX6_isThere Post 13 [(0, .ref k0)] [.int (if (h k0 1) = (-1) then 0 else 1 : Int32)] h := by
    obtain ⟨e13, K⟩ := K
    exact td_zreturn rfl (td_nb e13) dX6_isThere_13 K
  refine td_icmp_eq (tgt := 12) dX6_isThere_5 (by decide) (fun q5 => ?_) (fun q5 => ?_)
  · skip
    refine td_iconst (v := 0) dX6_isThere_12 (by decide) ?_
    exact td_to KJ13 rfl (by rw [show (if (h k0 1) = (-1) then 0 else 1 : Int32) = _ from if_pos q5]) rfl
  · skip
    refine td_iconst (v := 1) dX6_isThere_8 (by decide) ?_
    refine td_goto (tgt := 13) dX6_isThere_9 (by decide) ?_
    exact td_to KJ13 rfl (by rw [show (if (h k0 1) = (-1) then 0 else 1 : Int32) = _ from if_neg q5]) rfl
theorem c_S_isThere {G : td_G} {d : Nat} {h : td_H} {k : Nat} (hk : td_kd k = 6) : td_C G d mX6_isThere [.ref k] h (eR (if h k 1 = -1 then 0 else 1) h) := td_entry rfl (Nat.le_of_ble_eq_true rfl) rfl (gX6_isThere_0 hk ⟨by split <;> simp, rfl, rfl⟩)
set_option maxRecDepth 20000 in
set_option maxHeartbeats 4000000 in
theorem gX6_renew_0 {G : td_G} {d : Nat} {Post : td_P} {k0 : Nat} {x1 x2 : Int32} {h : td_H} (hk0 : td_kd k0 = 6) (K : td_J G d mX6_renew Post 12 [(0, .ref k0), (1, .int x1), (2, .int x2), (3, .int 0)] [] (hu (hu h k0 1 x1) k0 2 x2)) : td_J G d mX6_renew Post 0 [(0, .ref k0), (1, .int x1), (2, .int x2)] [] h := by
  refine td_aload_n 0 dX6_renew_0 rfl ?_
  refine td_iload_n 1 dX6_renew_1 rfl ?_
  refine pf_X6_15 rfl hk0 dX6_renew_2 ?_
  refine td_aload_n 0 dX6_renew_5 rfl ?_
  refine td_iload_n 2 dX6_renew_6 rfl ?_
  refine pf_X6_19 rfl hk0 dX6_renew_7 ?_
  refine td_iconst (v := 0) dX6_renew_10 (by decide) ?_
  refine td_istore_n (lv2 := [(0, .ref k0), (1, .int x1), (2, .int x2), (3, .int 0)]) dX6_renew_11 (by decide) rfl ?_
  exact K
set_option maxRecDepth 20000 in
set_option maxHeartbeats 4000000 in
theorem gX6_renew_12 {G : td_G} {d : Nat} {Post : td_P} {k0 : Nat} {x1 x2 x3 : Int32} {h : td_H} (hk0 : td_kd k0 = 6) (K : (16 ≤ x3 → (Post none h)) ∧ (¬ 16 ≤ x3 → (vp_in x3 16 ∧ (td_J G d mX6_renew Post 12 [(0, .ref k0), (1, .int x1), (2, .int x2), (3, .int (x3 + 1))] [] (hu h (k0 + 1) (ix x3) 0))))) : td_J G d mX6_renew Post 12 [(0, .ref k0), (1, .int x1), (2, .int x2), (3, .int x3)] [] h := by
  refine td_iload_n 3 dX6_renew_12 rfl ?_
  refine td_bipush (v := 16) dX6_renew_13 (by decide) ?_
  obtain ⟨Kt, Kf⟩ := K
  refine td_icmp_ge (tgt := 31) dX6_renew_15 (by decide) (fun q15 => ?_) (fun q15 => ?_)
  · have K := Kt q15
    exact td_return rfl dX6_renew_31 K
  · have K := Kf q15
    refine td_aload_n 0 dX6_renew_18 rfl ?_
    refine gf_X6_9 rfl hk0 dX6_renew_19 ?_
    refine td_iload_n 3 dX6_renew_22 rfl ?_
    refine td_iconst (v := 0) dX6_renew_23 (by decide) ?_
    obtain ⟨e24, K⟩ := K
    refine td_iastc (j := (ix x3)) (kd_6_0 hk0) (by decide) e24 rfl dX6_renew_24 ?_
    refine td_iinc 3 (v := x3 + 1) (lv2 := [(0, .ref k0), (1, .int x1), (2, .int x2), (3, .int (x3 + 1))]) dX6_renew_25 rfl (congrArg (x3 + ·) (by decide)) (by decide) rfl ?_
    refine td_goto (tgt := 12) dX6_renew_28 (by decide) ?_
    exact K
theorem c_S_renew {G : td_G} {d : Nat} {h : td_H} {k : Nat} (hk : td_kd k = 6) (x1 x2 : Int32) : td_C G d mX6_renew [.ref k, .int x1, .int x2] h (eV (fillH (hu (hu h k 1 x1) k 2 x2) (k + 1) 16 0)) := by
  refine td_entry rfl (Nat.le_of_ble_eq_true rfl) rfl (gX6_renew_0 hk ?_)
  refine td_for 16 (fun i => [(0, .ref k), (1, .int x1), (2, .int x2), (3, .int (nI i))]) (fun i => fillH (hu (hu h k 1 x1) k 2 x2) (k + 1) i 0) rfl (by funext a b; unfold fillH; rw [if_neg (by omega)]) (fun i hi ih => ?_) ?_
  · refine gX6_renew_12 hk ⟨fun y => absurd (le_of (a := 16) y) (by omega), fun _ => ⟨vp_in_nI hi (by decide), td_to ih (by rw [nI_1]) rfl ?_⟩⟩
    rw [ixn (by omega), fillH_s]
  · exact gX6_renew_12 hk ⟨fun _ => ⟨rfl, rfl⟩, fun y => absurd (by decide) y⟩
set_option maxRecDepth 20000 in
set_option maxHeartbeats 4000000 in
theorem gX6_leave_0 {G : td_G} {d : Nat} {Post : td_P} {k0 : Nat} {h : td_H} (hk0 : td_kd k0 = 6) (K : Post (some (.int ((hu h k0 1 (-1)) k0 2))) (hu h k0 1 (-1))) : td_J G d mX6_leave Post 0 [(0, .ref k0)] [] h := by
  refine td_aload_n 0 dX6_leave_0 rfl ?_
  refine td_iconst (v := (-1)) dX6_leave_1 (by decide) ?_
  refine pf_X6_15 rfl hk0 dX6_leave_2 ?_
  refine td_aload_n 0 dX6_leave_5 rfl ?_
  refine gf_X6_19 rfl hk0 dX6_leave_6 ?_
  exact td_ireturn rfl dX6_leave_9 K
theorem c_S_leave {G : td_G} {d : Nat} {h : td_H} {k : Nat} (hk : td_kd k = 6) : td_C G d mX6_leave [.ref k] h (eR (h k 2) (hu h k 1 (-1))) := td_entry rfl (Nat.le_of_ble_eq_true rfl) rfl (gX6_leave_0 hk ⟨by rw [hu_app, if_neg (by omega)], rfl⟩)
set_option maxRecDepth 20000 in
set_option maxHeartbeats 4000000 in
theorem gX6_refusalFor_0 {G : td_G} {d : Nat} {Post : td_P} {k0 : Nat} {x1 x2 x3 : Int32} {h : td_H} (hk0 : td_kd k0 = 6) (K : (¬ (if h (k0) 1 = (-1) then 0 else 1 : Int32) = 0 → (((h k0 1) = x1 → (Post (some (.int (if x2 < 0 then (-13) else if x2 ≤ ((h k0 2) - x3) then 0 else (-13) : Int32))) h)) ∧ (¬ (h k0 1) = x1 → (Post (some (.int (-12))) h)))) ∧ ((if h (k0) 1 = (-1) then 0 else 1 : Int32) = 0 → (Post (some (.int (-11))) h))) : td_J G (d + 1) mX6_refusalFor Post 0 [(0, .ref k0), (1, .int x1), (2, .int x2), (3, .int x3)] [] h := by
  refine td_aload_n 0 dX6_refusalFor_0 rfl ?_
  refine cl_X6_22 rfl hk0 dX6_refusalFor_1 (Nat.le_of_ble_eq_true rfl) (c_S_isThere hk0) (eR_k ?_)
  refine td_eqs (st2 := [.int (if h (k0) 1 = (-1) then 0 else 1 : Int32)]) rfl ?_
  obtain ⟨Kt, Kf⟩ := K
  refine td_if_ne (tgt := 10) dX6_refusalFor_4 (by decide) (fun q4 => ?_) (fun q4 => ?_)
  · have K := Kt q4
    refine td_aload_n 0 dX6_refusalFor_10 rfl ?_
    refine gf_X6_15 rfl hk0 dX6_refusalFor_11 ?_
    refine td_iload_n 1 dX6_refusalFor_14 rfl ?_
    obtain ⟨Kt, Kf⟩ := K
    refine td_icmp_eq (tgt := 21) dX6_refusalFor_15 (by decide) (fun q15 => ?_) (fun q15 => ?_)
    · have K := Kt q15
      refine td_iload_n 2 dX6_refusalFor_21 rfl ?_
      have KJ41 : td_J G (d + 1) mX6_refusalFor Post 41 [(0, .ref k0), (1, .int x1), (2, .int x2), (3, .int x3)] [.int (if x2 < 0 then (-13) else if x2 ≤ ((h k0 2) - x3) then 0 else (-13) : Int32)] h := by
        exact td_ireturn rfl dX6_refusalFor_41 K
      refine td_if_lt (tgt := 35) dX6_refusalFor_22 (by decide) (fun q22 => ?_) (fun q22 => ?_)
      · skip
        refine td_bipush (v := (-13)) dX6_refusalFor_35 (by decide) ?_
        refine td_goto (tgt := 41) dX6_refusalFor_37 (by decide) ?_
        exact td_to KJ41 rfl (by rw [show (if x2 < 0 then (-13) else if x2 ≤ ((h k0 2) - x3) then 0 else (-13) : Int32) = _ from if_pos q22]) rfl
      · skip
        refine td_iload_n 2 dX6_refusalFor_25 rfl ?_
        refine td_aload_n 0 dX6_refusalFor_26 rfl ?_
        refine gf_X6_19 rfl hk0 dX6_refusalFor_27 ?_
        refine td_iload_n 3 dX6_refusalFor_30 rfl ?_
        refine td_isub dX6_refusalFor_31 ?_
        refine td_icmp_le (tgt := 40) dX6_refusalFor_32 (by decide) (fun q32 => ?_) (fun q32 => ?_)
        · skip
          refine td_iconst (v := 0) dX6_refusalFor_40 (by decide) ?_
          exact td_to KJ41 rfl (by rw [show (if x2 < 0 then (-13) else if x2 ≤ ((h k0 2) - x3) then 0 else (-13) : Int32) = _ from (if_neg q22).trans (if_pos q32)]) rfl
        · skip
          refine td_bipush (v := (-13)) dX6_refusalFor_35 (by decide) ?_
          refine td_goto (tgt := 41) dX6_refusalFor_37 (by decide) ?_
          exact td_to KJ41 rfl (by rw [show (if x2 < 0 then (-13) else if x2 ≤ ((h k0 2) - x3) then 0 else (-13) : Int32) = _ from (if_neg q22).trans (if_neg q32)]) rfl
    · have K := Kf q15
      refine td_bipush (v := (-12)) dX6_refusalFor_18 (by decide) ?_
      exact td_ireturn rfl dX6_refusalFor_20 K
  · have K := Kf q4
    refine td_bipush (v := (-11)) dX6_refusalFor_7 (by decide) ?_
    exact td_ireturn rfl dX6_refusalFor_9 K
set_option maxRecDepth 20000 in
set_option maxHeartbeats 4000000 in
theorem gX6_get_0 {G : td_G} {d : Nat} {Post : td_P} {k0 : Nat} {x1 : Int32} {h : td_H} (hk0 : td_kd k0 = 6) (K : (¬ (b2i (0 ≤ x1 ∧ x1 < (h k0 2))) = 0 → (vp_in x1 16 ∧ True)) ∧ (Post (some (.int (if (b2i (0 ≤ x1 ∧ x1 < (h k0 2))) = 0 then 0 else (h (k0 + 1) (ix x1)) : Int32))) h)) : td_J G (d + 1) mX6_get Post 0 [(0, .ref k0), (1, .int x1)] [] h := by
  refine td_iload_n 1 dX6_get_0 rfl ?_
  refine td_aload_n 0 dX6_get_1 rfl ?_
  refine gf_X6_19 rfl hk0 dX6_get_2 ?_
  refine cl_X6_26 rfl dX6_get_5 (Nat.le_of_ble_eq_true rfl) (c_isIn x1 (h k0 2)) (eR_k ?_)
  refine td_eqs (st2 := [.int (b2i (0 ≤ x1 ∧ x1 < (h k0 2)))]) rfl ?_
  obtain ⟨Ks8, K⟩ := K
  have KJ21 : td_J G (d + 1) mX6_get Post 21 [(0, .ref k0), (1, .int x1)] [.int (if (b2i (0 ≤ x1 ∧ x1 < (h k0 2))) = 0 then 0 else (h (k0 + 1) (ix x1)) : Int32)] h := by
    exact td_ireturn rfl dX6_get_21 K
  refine td_if_eq (tgt := 20) dX6_get_8 (by decide) (fun q8 => ?_) (fun q8 => ?_)
  · skip
    refine td_iconst (v := 0) dX6_get_20 (by decide) ?_
    exact td_to KJ21 rfl (by rw [show (if (b2i (0 ≤ x1 ∧ x1 < (h k0 2))) = 0 then 0 else (h (k0 + 1) (ix x1)) : Int32) = _ from if_pos q8]) rfl
  · have K := Ks8 q8
    refine td_aload_n 0 dX6_get_11 rfl ?_
    refine gf_X6_9 rfl hk0 dX6_get_12 ?_
    refine td_iload_n 1 dX6_get_15 rfl ?_
    obtain ⟨e16, K⟩ := K
    refine td_ialdc (j := (ix x1)) (kd_6_0 hk0) (by decide) e16 rfl dX6_get_16 ?_
    refine td_goto (tgt := 21) dX6_get_17 (by decide) ?_
    exact td_to KJ21 rfl (by rw [show (if (b2i (0 ≤ x1 ∧ x1 < (h k0 2))) = 0 then 0 else (h (k0 + 1) (ix x1)) : Int32) = _ from if_neg q8]) rfl
set_option maxRecDepth 20000 in
set_option maxHeartbeats 4000000 in
theorem gX6_put_0 {G : td_G} {d : Nat} {Post : td_P} {k0 : Nat} {x1 x2 : Int32} {h : td_H} (hk0 : td_kd k0 = 6) (K : (¬ (b2i (0 ≤ x1 ∧ x1 < (h k0 2))) = 0 → (vp_in x1 16 ∧ True)) ∧ (Post none (if (b2i (0 ≤ x1 ∧ x1 < (h k0 2))) = 0 then h else (hu h (k0 + 1) (ix x1) (if (h k0 1) = 0 then x2.toInt8.toInt32 else if (h k0 1) = 1 then x2.toInt16.toInt32 else x2 : Int32)) : td_H))) : td_J G (d + 1) mX6_put Post 0 [(0, .ref k0), (1, .int x1), (2, .int x2)] [] h := by
  refine td_iload_n 1 dX6_put_0 rfl ?_
  refine td_aload_n 0 dX6_put_1 rfl ?_
  refine gf_X6_19 rfl hk0 dX6_put_2 ?_
  refine cl_X6_26 rfl dX6_put_5 (Nat.le_of_ble_eq_true rfl) (c_isIn x1 (h k0 2)) (eR_k ?_)
  refine td_eqs (st2 := [.int (b2i (0 ≤ x1 ∧ x1 < (h k0 2)))]) rfl ?_
  obtain ⟨Ks8, K⟩ := K
  have KJ43 : td_J G (d + 1) mX6_put Post 43 [(0, .ref k0), (1, .int x1), (2, .int x2)] [] (if (b2i (0 ≤ x1 ∧ x1 < (h k0 2))) = 0 then h else (hu h (k0 + 1) (ix x1) (if (h k0 1) = 0 then x2.toInt8.toInt32 else if (h k0 1) = 1 then x2.toInt16.toInt32 else x2 : Int32)) : td_H) := by
    exact td_return rfl dX6_put_43 K
  refine td_if_eq (tgt := 43) dX6_put_8 (by decide) (fun q8 => ?_) (fun q8 => ?_)
  · skip
    exact td_to KJ43 rfl rfl (by rw [show (if (b2i (0 ≤ x1 ∧ x1 < (h k0 2))) = 0 then h else (hu h (k0 + 1) (ix x1) (if (h k0 1) = 0 then x2.toInt8.toInt32 else if (h k0 1) = 1 then x2.toInt16.toInt32 else x2 : Int32)) : td_H) = _ from if_pos q8])
  · have K := Ks8 q8
    refine td_aload_n 0 dX6_put_11 rfl ?_
    refine gf_X6_9 rfl hk0 dX6_put_12 ?_
    refine td_iload_n 1 dX6_put_15 rfl ?_
    refine td_aload_n 0 dX6_put_16 rfl ?_
    refine gf_X6_15 rfl hk0 dX6_put_17 ?_
    have KJ42 : td_J G (d + 1) mX6_put Post 42 [(0, .ref k0), (1, .int x1), (2, .int x2)] [.int (if (h k0 1) = 0 then x2.toInt8.toInt32 else if (h k0 1) = 1 then x2.toInt16.toInt32 else x2 : Int32), .int x1, .ref (k0 + 1)] h := by
      obtain ⟨e42, K⟩ := K
      refine td_iastc (j := (ix x1)) (kd_6_0 hk0) (by decide) e42 rfl dX6_put_42 ?_
      exact td_to KJ43 rfl rfl (by rw [show (if (b2i (0 ≤ x1 ∧ x1 < (h k0 2))) = 0 then h else (hu h (k0 + 1) (ix x1) (if (h k0 1) = 0 then x2.toInt8.toInt32 else if (h k0 1) = 1 then x2.toInt16.toInt32 else x2 : Int32)) : td_H) = _ from if_neg q8])
    refine td_if_ne (tgt := 28) dX6_put_20 (by decide) (fun q20 => ?_) (fun q20 => ?_)
    · skip
      refine td_aload_n 0 dX6_put_28 rfl ?_
      refine gf_X6_15 rfl hk0 dX6_put_29 ?_
      refine td_iconst (v := 1) dX6_put_32 (by decide) ?_
      refine td_icmp_ne (tgt := 41) dX6_put_33 (by decide) (fun q33 => ?_) (fun q33 => ?_)
      · skip
        refine td_iload_n 2 dX6_put_41 rfl ?_
        exact td_to KJ42 rfl (by rw [show (if (h k0 1) = 0 then x2.toInt8.toInt32 else if (h k0 1) = 1 then x2.toInt16.toInt32 else x2 : Int32) = _ from (if_neg q20).trans (if_neg q33)]) rfl
      · skip
        refine td_iload_n 2 dX6_put_36 rfl ?_
        refine td_i2s dX6_put_37 ?_
        refine td_goto (tgt := 42) dX6_put_38 (by decide) ?_
        exact td_to KJ42 rfl (by rw [show (if (h k0 1) = 0 then x2.toInt8.toInt32 else if (h k0 1) = 1 then x2.toInt16.toInt32 else x2 : Int32) = _ from (if_neg q20).trans (if_pos q33)]) rfl
    · skip
      refine td_iload_n 2 dX6_put_23 rfl ?_
      refine td_i2b dX6_put_24 ?_
      refine td_goto (tgt := 42) dX6_put_25 (by decide) ?_
      exact td_to KJ42 rfl (by rw [show (if (h k0 1) = 0 then x2.toInt8.toInt32 else if (h k0 1) = 1 then x2.toInt16.toInt32 else x2 : Int32) = _ from if_pos q20]) rfl
def shL (k : Nat) (h : td_H) : Prop := ∃ n, n ≤ 16 ∧ h k 2 = nI n
theorem shL.in {k : Nat} {h : td_H} (x : shL k h) {i : Int32} (y : ¬ b2i (0 ≤ i ∧ i < h k 2) = 0) : vp_in i 16 := by
  obtain ⟨n, hn, e⟩ := x
  have z : 0 ≤ i ∧ i < h k 2 := Decidable.byContradiction fun w => y (b2i_0.mpr w)
  rw [e] at z
  have w := (is_in (n := n) (by omega)).mp z
  rw [vp_in_iff] at w ⊢
  omega
theorem c_S_get {G : td_G} {d : Nat} {h : td_H} {k : Nat} (hk : td_kd k = 6) (x : Int32) (hl : shL k h) : td_C G (d + 1) mX6_get [.ref k, .int x] h (eR (if b2i (0 ≤ x ∧ x < h k 2) = 0 then 0 else h (k + 1) (ix x)) h) := td_entry rfl (Nat.le_of_ble_eq_true rfl) rfl (gX6_get_0 hk ⟨fun y => ⟨hl.in y, trivial⟩, rfl, rfl⟩)
def cutI (l x : Int32) : Int32 := if l = 0 then x.toInt8.toInt32 else if l = 1 then x.toInt16.toInt32 else x
theorem c_S_put {G : td_G} {d : Nat} {h : td_H} {k : Nat} (hk : td_kd k = 6) (x y : Int32) (hl : shL k h) : td_C G (d + 1) mX6_put [.ref k, .int x, .int y] h (eV (if b2i (0 ≤ x ∧ x < h k 2) = 0 then h else hu h (k + 1) (ix x) (cutI (h k 1) y))) := td_entry rfl (Nat.le_of_ble_eq_true rfl) rfl (gX6_put_0 hk ⟨fun y => ⟨hl.in y, trivial⟩, rfl, rfl⟩)
