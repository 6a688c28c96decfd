/-! Door: the drum begins -/
set_option maxRecDepth 20000 in
set_option maxHeartbeats 4000000 in
theorem gX1_begin_0 {G : td_G} {d : Nat} {Post : td_P} {L O : Nat} {k0 k1 : Nat} {h : td_H} (hk0 : td_kd k0 = 1) (hk1 : td_kd k1 = 5) (K : ((¬ (h k0 5) = (h (k1 + 1) 0) → ((L = 3 ∨ L = 4) ∧ O < 4 ∧ (hu (hu h k0 5 (h (k1 + 1) 0)) k0 6 ((hu h k0 5 (h (k1 + 1) 0)) (k1 + 1) 1)) (k0) 5 = nI L ∧ (hu (hu h k0 5 (h (k1 + 1) 0)) k0 6 ((hu h k0 5 (h (k1 + 1) 0)) (k1 + 1) 1)) (k0) 6 = nI O ∧ True)) ∧ ((h k0 5) = (h (k1 + 1) 0) → (¬ (h k0 6) = (h (k1 + 1) 1) → ((L = 3 ∨ L = 4) ∧ O < 4 ∧ (hu (hu h k0 5 (h (k1 + 1) 0)) k0 6 ((hu h k0 5 (h (k1 + 1) 0)) (k1 + 1) 1)) (k0) 5 = nI L ∧ (hu (hu h k0 5 (h (k1 + 1) 0)) k0 6 ((hu h k0 5 (h (k1 + 1) 0)) (k1 + 1) 1)) (k0) 6 = nI O ∧ True)))) ∧ (td_J G (d + 3) mX1_begin Post 52 [(0, .ref k0), (1, .ref k1), (2, .int 0)] [] (if (h k0 5) = (h (k1 + 1) 0) then if (h k0 6) = (h (k1 + 1) 1) then h else (layH (hu (hu h k0 5 (h (k1 + 1) 0)) k0 6 ((hu h k0 5 (h (k1 + 1) 0)) (k1 + 1) 1)) (k0) L O 24 96) else (layH (hu (hu h k0 5 (h (k1 + 1) 0)) k0 6 ((hu h k0 5 (h (k1 + 1) 0)) (k1 + 1) 1)) (k0) L O 24 96) : td_H))) : td_J G (d + 3) mX1_begin Post 0 [(0, .ref k0), (1, .ref k1)] [] h := by
  refine td_aload_n 0 dX1_begin_0 rfl ?_
  refine gf_X1_31 rfl hk0 dX1_begin_1 ?_
  refine td_aload_n 1 dX1_begin_4 rfl ?_
  refine gf_X1_35 rfl hk1 dX1_begin_5 ?_
  refine td_iconst (v := 0) dX1_begin_8 (by decide) ?_
  refine td_ialdc (j := 0) (kd_5_0 hk1) (by decide) (by unfold vp_in; decide) (by decide) dX1_begin_9 ?_
  obtain ⟨Ks10, K⟩ := K
  have KJ50 : td_J G (d + 3) mX1_begin Post 50 [(0, .ref k0), (1, .ref k1)] [] (if (h k0 5) = (h (k1 + 1) 0) then if (h k0 6) = (h (k1 + 1) 1) then h else (layH (hu (hu h k0 5 (h (k1 + 1) 0)) k0 6 ((hu h k0 5 (h (k1 + 1) 0)) (k1 + 1) 1)) (k0) L O 24 96) else (layH (hu (hu h k0 5 (h (k1 + 1) 0)) k0 6 ((hu h k0 5 (h (k1 + 1) 0)) (k1 + 1) 1)) (k0) L O 24 96) : td_H) := by
    refine td_iconst (v := 0) dX1_begin_50 (by decide) ?_
    refine td_istore_n (lv2 := [(0, .ref k0), (1, .ref k1), (2, .int 0)]) dX1_begin_51 (by decide) rfl ?_
    exact K
  refine td_icmp_ne (tgt := 26) dX1_begin_10 (by decide) (fun q10 => ?_) (fun q10 => ?_)
  · have K := Ks10.1 q10
    refine td_aload_n 0 dX1_begin_26 rfl ?_
    refine td_aload_n 1 dX1_begin_27 rfl ?_
    refine gf_X1_35 rfl hk1 dX1_begin_28 ?_
    refine td_iconst (v := 0) dX1_begin_31 (by decide) ?_
    refine td_ialdc (j := 0) (kd_5_0 hk1) (by decide) (by unfold vp_in; decide) (by decide) dX1_begin_32 ?_
    refine pf_X1_31 rfl hk0 dX1_begin_33 ?_
    refine td_aload_n 0 dX1_begin_36 rfl ?_
    refine td_aload_n 1 dX1_begin_37 rfl ?_
    refine gf_X1_35 rfl hk1 dX1_begin_38 ?_
    refine td_iconst (v := 1) dX1_begin_41 (by decide) ?_
    refine td_ialdc (j := 1) (kd_5_0 hk1) (by decide) (by unfold vp_in; decide) (by decide) dX1_begin_42 ?_
    refine pf_X1_40 rfl hk0 dX1_begin_43 ?_
    refine td_aload_n 0 dX1_begin_46 rfl ?_
    obtain ⟨e47_0, K⟩ := K
    obtain ⟨e47_1, K⟩ := K
    obtain ⟨e47_2, K⟩ := K
    obtain ⟨e47_3, K⟩ := K
    refine cl_X1_43 rfl hk0 dX1_begin_47 (Nat.le_of_ble_eq_true rfl) (c_layOut hk0 L O e47_0 e47_1 e47_2 e47_3) (eV_k ?_)
    refine td_eqs (st2 := []) rfl ?_
    exact td_to KJ50 rfl rfl (by rw [show (if (h k0 5) = (h (k1 + 1) 0) then if (h k0 6) = (h (k1 + 1) 1) then h else (layH (hu (hu h k0 5 (h (k1 + 1) 0)) k0 6 ((hu h k0 5 (h (k1 + 1) 0)) (k1 + 1) 1)) (k0) L O 24 96) else (layH (hu (hu h k0 5 (h (k1 + 1) 0)) k0 6 ((hu h k0 5 (h (k1 + 1) 0)) (k1 + 1) 1)) (k0) L O 24 96) : td_H) = _ from if_neg q10])
  · have K := Ks10.2 q10
    refine td_aload_n 0 dX1_begin_13 rfl ?_
    refine gf_X1_40 rfl hk0 dX1_begin_14 ?_
    refine td_aload_n 1 dX1_begin_17 rfl ?_
    refine gf_X1_35 rfl hk1 dX1_begin_18 ?_
    refine td_iconst (v := 1) dX1_begin_21 (by decide) ?_
    refine td_ialdc (j := 1) (kd_5_0 hk1) (by decide) (by unfold vp_in; decide) (by decide) dX1_begin_22 ?_
    refine td_icmp_eq (tgt := 50) dX1_begin_23 (by decide) (fun q23 => ?_) (fun q23 => ?_)
    · skip
      exact td_to KJ50 rfl rfl (by rw [show (if (h k0 5) = (h (k1 + 1) 0) then if (h k0 6) = (h (k1 + 1) 1) then h else (layH (hu (hu h k0 5 (h (k1 + 1) 0)) k0 6 ((hu h k0 5 (h (k1 + 1) 0)) (k1 + 1) 1)) (k0) L O 24 96) else (layH (hu (hu h k0 5 (h (k1 + 1) 0)) k0 6 ((hu h k0 5 (h (k1 + 1) 0)) (k1 + 1) 1)) (k0) L O 24 96) : td_H) = _ from (if_pos q10).trans (if_pos q23)])
    · have K := K q23
      refine td_aload_n 0 dX1_begin_26 rfl ?_
      refine td_aload_n 1 dX1_begin_27 rfl ?_
      refine gf_X1_35 rfl hk1 dX1_begin_28 ?_
      refine td_iconst (v := 0) dX1_begin_31 (by decide) ?_
      refine td_ialdc (j := 0) (kd_5_0 hk1) (by decide) (by unfold vp_in; decide) (by decide) dX1_begin_32 ?_
      refine pf_X1_31 rfl hk0 dX1_begin_33 ?_
      refine td_aload_n 0 dX1_begin_36 rfl ?_
      refine td_aload_n 1 dX1_begin_37 rfl ?_
      refine gf_X1_35 rfl hk1 dX1_begin_38 ?_
      refine td_iconst (v := 1) dX1_begin_41 (by decide) ?_
      refine td_ialdc (j := 1) (kd_5_0 hk1) (by decide) (by unfold vp_in; decide) (by decide) dX1_begin_42 ?_
      refine pf_X1_40 rfl hk0 dX1_begin_43 ?_
      refine td_aload_n 0 dX1_begin_46 rfl ?_
      obtain ⟨e47_0, K⟩ := K
      obtain ⟨e47_1, K⟩ := K
      obtain ⟨e47_2, K⟩ := K
      obtain ⟨e47_3, K⟩ := K
      refine cl_X1_43 rfl hk0 dX1_begin_47 (Nat.le_of_ble_eq_true rfl) (c_layOut hk0 L O e47_0 e47_1 e47_2 e47_3) (eV_k ?_)
      refine td_eqs (st2 := []) rfl ?_
      exact td_to KJ50 rfl rfl (by rw [show (if (h k0 5) = (h (k1 + 1) 0) then if (h k0 6) = (h (k1 + 1) 1) then h else (layH (hu (hu h k0 5 (h (k1 + 1) 0)) k0 6 ((hu h k0 5 (h (k1 + 1) 0)) (k1 + 1) 1)) (k0) L O 24 96) else (layH (hu (hu h k0 5 (h (k1 + 1) 0)) k0 6 ((hu h k0 5 (h (k1 + 1) 0)) (k1 + 1) 1)) (k0) L O 24 96) : td_H) = _ from (if_pos q10).trans (if_neg q23)])
set_option maxRecDepth 20000 in
set_option maxHeartbeats 4000000 in
theorem gX1_begin_52 {G : td_G} {d : Nat} {Post : td_P} {k0 k1 : Nat} {x2 : Int32} {h : td_H} (hk0 : td_kd k0 = 1) (hk1 : td_kd k1 = 5) (K : (4 ≤ x2 → (Post none (hu (hu (hu (hu (hu h k0 7 0) k0 8 0) k0 9 0) k0 10 ((hu (hu (hu h k0 7 0) k0 8 0) k0 9 0) (k1 + 1) 6)) k0 11 0))) ∧ (¬ 4 ≤ x2 → (vp_in x2 4 ∧ (td_J G (d + 3) mX1_begin Post 52 [(0, .ref k0), (1, .ref k1), (2, .int (x2 + 1))] [] (hu (hu h (k0 + 3) (ix x2) 0) (k0 + 4) (ix x2) ((hu h (k0 + 3) (ix x2) 0) (k1 + 1) 2)))))) : td_J G (d + 3) mX1_begin Post 52 [(0, .ref k0), (1, .ref k1), (2, .int x2)] [] h := by
  refine td_iload_n 2 dX1_begin_52 rfl ?_
  refine td_iconst (v := 4) dX1_begin_53 (by decide) ?_
  obtain ⟨Kt, Kf⟩ := K
  refine td_icmp_ge (tgt := 82) dX1_begin_54 (by decide) (fun q54 => ?_) (fun q54 => ?_)
  · have K := Kt q54
    refine td_aload_n 0 dX1_begin_82 rfl ?_
    refine td_iconst (v := 0) dX1_begin_83 (by decide) ?_
    refine pf_X1_46 rfl hk0 dX1_begin_84 ?_
    refine td_aload_n 0 dX1_begin_87 rfl ?_
    refine td_iconst (v := 0) dX1_begin_88 (by decide) ?_
    refine pf_X1_49 rfl hk0 dX1_begin_89 ?_
    refine td_aload_n 0 dX1_begin_92 rfl ?_
    refine td_iconst (v := 0) dX1_begin_93 (by decide) ?_
    refine pf_X1_52 rfl hk0 dX1_begin_94 ?_
    refine td_aload_n 0 dX1_begin_97 rfl ?_
    refine td_aload_n 1 dX1_begin_98 rfl ?_
    refine gf_X1_35 rfl hk1 dX1_begin_99 ?_
    refine td_bipush (v := 6) dX1_begin_102 (by decide) ?_
    refine td_ialdc (j := 6) (kd_5_0 hk1) (by decide) (by unfold vp_in; decide) (by decide) dX1_begin_104 ?_
    refine pf_X1_55 rfl hk0 dX1_begin_105 ?_
    refine td_aload_n 0 dX1_begin_108 rfl ?_
    refine td_iconst (v := 0) dX1_begin_109 (by decide) ?_
    refine pf_X1_58 rfl hk0 dX1_begin_110 ?_
    exact td_return rfl dX1_begin_113 K
  · have K := Kf q54
    refine td_aload_n 0 dX1_begin_57 rfl ?_
    refine gf_X1_18 rfl hk0 dX1_begin_58 ?_
    refine td_iload_n 2 dX1_begin_61 rfl ?_
    refine td_iconst (v := 0) dX1_begin_62 (by decide) ?_
    obtain ⟨e63, K⟩ := K
    refine td_iastc (j := (ix x2)) (kd_1_2 hk0) (by decide) e63 rfl dX1_begin_63 ?_
    refine td_aload_n 0 dX1_begin_64 rfl ?_
    refine gf_X1_21 rfl hk0 dX1_begin_65 ?_
    refine td_iload_n 2 dX1_begin_68 rfl ?_
    refine td_aload_n 1 dX1_begin_69 rfl ?_
    refine gf_X1_35 rfl hk1 dX1_begin_70 ?_
    refine td_iconst (v := 2) dX1_begin_73 (by decide) ?_
    refine td_ialdc (j := 2) (kd_5_0 hk1) (by decide) (by unfold vp_in; decide) (by decide) dX1_begin_74 ?_
    refine td_iastc (j := (ix x2)) (kd_1_3 hk0) (by decide) e63 rfl dX1_begin_75 ?_
    refine td_iinc 2 (v := x2 + 1) (lv2 := [(0, .ref k0), (1, .ref k1), (2, .int (x2 + 1))]) dX1_begin_76 rfl (congrArg (x2 + ·) (by decide)) (by decide) rfl ?_
    refine td_goto (tgt := 52) dX1_begin_79 (by decide) ?_
    exact K
def dKn (D : Nat) (h : td_H) : Prop := h D 5 = 0 ∨ ∃ L O, dLay L O D h
def bgH (h : td_H) (D n r : Nat) : td_H := fun a b => if a = D + 3 ∧ b < n then 0 else if a = D + 4 ∧ b < n then nI r else h a b
theorem bgH_s (h : td_H) (D n r : Nat) : hu (hu (bgH h D n r) (D + 3) n 0) (D + 4) n (nI r) = bgH h D (n + 1) r := by
  funext a b
  simp only [hu_app]
  unfold bgH
  by_cases y : b = n
  · subst y
    by_cases e4 : a = D + 4
    · subst e4; simp
    · by_cases e3 : a = D + 3
      · subst e3; simp
      · simp [e3, e4]
  · have : (b < n + 1) = (b < n) := by apply propext; omega
    simp [y, this]
def dBeg (c : nH) (D : Nat) (h h' : td_H) : Prop := (∀ a b, ¬ (D ≤ a ∧ a ≤ D + 4) → h' a b = h a b) ∧ dLay (c 0 0) (c 0 1) D h' ∧ h' D 7 = 0 ∧ h' D 8 = 0 ∧ h' D 9 = 0 ∧ h' D 10 = nI (c 0 6) ∧ h' D 11 = 0 ∧ ∀ i, i < 4 → h' (D + 3) i = 0 ∧ h' (D + 4) i = nI (c 0 2)
theorem dLay.fr {L O D : Nat} {h h' : td_H} (x : dLay L O D h) (e5 : h' D 5 = h D 5) (e6 : h' D 6 = h D 6) (e : ∀ a b, a = D + 1 ∨ a = D + 2 → h' a b = h a b) : dLay L O D h' := by
  obtain ⟨b1, b2, b3, b4, b5⟩ := x
  exact ⟨b1, b2, e5.trans b3, e6.trans b4, fun s hs t ht => ⟨(e _ _ (Or.inr rfl)).trans (b5 s hs t ht).1, fun i hi => (e _ _ (Or.inl rfl)).trans ((b5 s hs t ht).2 i hi)⟩⟩
theorem c_D_begin {G : td_G} {d : Nat} {h : td_H} {D q : Nat} {c : nH} (hD : td_kd D = 1) (hq : td_kd q = 5) (hsep : q + 4 < D) (hP : dP c q h) (hK : dKn D h) : td_C G (d + 3) mX1_begin [.ref D, .ref q] h (fun r h' => r = none ∧ dBeg c D h h') := by
  have hwf := hP.1
  have hL : c 0 0 = 3 ∨ c 0 0 = 4 := by have := hwf.1; omega
  have hO : c 0 1 < 4 := by have := hwf.2.1; omega
  have e0 : h (q + 1) 0 = nI (c 0 0) := hP.2.1 0 (by decide)
  have e1 : h (q + 1) 1 = nI (c 0 1) := hP.2.1 1 (by decide)
  refine td_entry rfl (Nat.le_of_ble_eq_true rfl) rfl (gX1_begin_0 (L := c 0 0) (O := c 0 1) hD hq ?_)
  have ex : (hu h D 5 (nI (c 0 0))) (q + 1) 1 = nI (c 0 1) := by rw [hu_app, if_neg (by omega)]; exact e1
  rw [e0, e1, ex]
  have a5 : (hu (hu h D 5 (nI (c 0 0))) D 6 (nI (c 0 1))) D 5 = nI (c 0 0) := by rw [hu_app, if_neg (by omega), hu_app, if_pos ⟨rfl, rfl⟩]
  have a6 : (hu (hu h D 5 (nI (c 0 0))) D 6 (nI (c 0 1))) D 6 = nI (c 0 1) := by rw [hu_app, if_pos ⟨rfl, rfl⟩]
  have sd : (c 0 0 = 3 ∨ c 0 0 = 4) ∧ c 0 1 < 4 ∧ (hu (hu h D 5 (nI (c 0 0))) D 6 (nI (c 0 1))) D 5 = nI (c 0 0) ∧ (hu (hu h D 5 (nI (c 0 0))) D 6 (nI (c 0 1))) D 6 = nI (c 0 1) ∧ True := ⟨hL, hO, a5, a6, trivial⟩
  refine ⟨⟨fun _ => sd, fun _ _ => sd⟩, ?_⟩
  have st : ∃ h1, (if h D 5 = nI (c 0 0) then if h D 6 = nI (c 0 1) then h else (layH (hu (hu h D 5 (nI (c 0 0))) D 6 (nI (c 0 1))) D (c 0 0) (c 0 1) 24 96) else (layH (hu (hu h D 5 (nI (c 0 0))) D 6 (nI (c 0 1))) D (c 0 0) (c 0 1) 24 96) : td_H) = h1 ∧ dLay (c 0 0) (c 0 1) D h1 ∧ ∀ a b, ¬ (D ≤ a ∧ a ≤ D + 4) → h1 a b = h a b := by
    have lay : dLay (c 0 0) (c 0 1) D (layH (hu (hu h D 5 (nI (c 0 0))) D 6 (nI (c 0 1))) D (c 0 0) (c 0 1) 24 96) ∧ ∀ a b, ¬ (D ≤ a ∧ a ≤ D + 4) → (layH (hu (hu h D 5 (nI (c 0 0))) D 6 (nI (c 0 1))) D (c 0 0) (c 0 1) 24 96) a b = h a b := ⟨dLay_of hL hO a5 a6, fun a b n => by
      rw [layH_o _ _ _ _ _ _ (by omega) (by omega), hu_app, if_neg (by omega), hu_app, if_neg (by omega)]⟩
    by_cases y1 : h D 5 = nI (c 0 0)
    · by_cases y2 : h D 6 = nI (c 0 1)
      · refine ⟨h, by rw [if_pos y1, if_pos y2], ?_, fun _ _ _ => rfl⟩
        rcases hK with z | ⟨L, O, z⟩
        · rw [y1] at z
          exact absurd (eq_of (b := 0) z) (by omega)
        · have w1 : L = c 0 0 := eq_of (by rw [← z.2.2.1, y1]) (by have := z.1; omega)
          have w2 : O = c 0 1 := eq_of (by rw [← z.2.2.2.1, y2]) (by have := z.2.1; omega)
          rw [← w1, ← w2]
          exact z
      · exact ⟨_, by rw [if_pos y1, if_neg y2], lay⟩
    · exact ⟨_, by rw [if_neg y1], lay⟩
  obtain ⟨h1, eh, hl, ho⟩ := st
  rw [eh]
  have r2 : h1 (q + 1) 2 = nI (c 0 2) := by rw [ho _ _ (by omega)]; exact hP.2.1 2 (by decide)
  have r6 : h1 (q + 1) 6 = nI (c 0 6) := by rw [ho _ _ (by omega)]; exact hP.2.1 6 (by decide)
  have bo : ∀ n a b, a ≠ D + 3 → a ≠ D + 4 → bgH h1 D n (c 0 2) a b = h1 a b := fun n a b n1 n2 => by unfold bgH; rw [if_neg (fun z => n1 z.1), if_neg (fun z => n2 z.1)]
  refine td_for 4 (fun i => [(0, .ref D), (1, .ref q), (2, .int (nI i))]) (fun i => bgH h1 D i (c 0 2)) rfl (by funext a b; unfold bgH; rw [if_neg (by omega), if_neg (by omega)]) (fun i hi ih => ?_) ?_
  · refine gX1_begin_52 hD hq ⟨fun y => absurd (le_of (a := 4) y) (by omega), fun _ => ⟨vp_in_nI hi (by decide), ?_⟩⟩
    refine td_to ih (by rw [nI_1]) rfl ?_
    rw [ixn (by omega), hu_app, if_neg (by omega), bo _ _ _ (by omega) (by omega), r2, bgH_s]
  · refine gX1_begin_52 hD hq ⟨fun _ => ⟨rfl, ?_⟩, fun y => absurd (by decide) y⟩
    have e6 : (hu (hu (hu (bgH h1 D 4 (c 0 2)) D 7 0) D 8 0) D 9 0) (q + 1) 6 = nI (c 0 6) := by
      rw [hu_app, if_neg (by omega), hu_app, if_neg (by omega), hu_app, if_neg (by omega), bo _ _ _ (by omega) (by omega)]; exact r6
    rw [e6]
    have r : ∀ a b, ¬ (a = D ∧ 7 ≤ b) → (hu (hu (hu (hu (hu (bgH h1 D 4 (c 0 2)) D 7 0) D 8 0) D 9 0) D 10 (nI (c 0 6))) D 11 0) a b = bgH h1 D 4 (c 0 2) a b := fun a b n => by
      rw [hu_app, if_neg (by omega), hu_app, if_neg (by omega), hu_app, if_neg (by omega), hu_app, if_neg (by omega), hu_app, if_neg (by omega)]
    refine ⟨fun a b n => ?_, ?_, ?_, ?_, ?_, ?_, ?_, fun i hi => ⟨?_, ?_⟩⟩
    · rw [r _ _ (by omega), bo _ _ _ (by omega) (by omega)]; exact ho a b n
    · refine hl.fr ?_ ?_ (fun a b ha => ?_)
      · rw [r _ _ (by omega), bo _ _ _ (by omega) (by omega)]
      · rw [r _ _ (by omega), bo _ _ _ (by omega) (by omega)]
      · rw [r _ _ (by omega), bo _ _ _ (by omega) (by omega)]
    · simp [hu_app]
    · simp [hu_app]
    · simp [hu_app]
    · simp [hu_app]
    · simp [hu_app]
    · rw [r _ _ (by omega)]
      unfold bgH
      rw [if_pos ⟨rfl, hi⟩]
    · rw [r _ _ (by omega)]
      unfold bgH
      rw [if_neg (by omega), if_pos ⟨rfl, hi⟩]
/-! Door: who is ahead -/
set_option maxRecDepth 20000 in
set_option maxHeartbeats 4000000 in
theorem gX0_isAhead_0 {G : td_G} {d : Nat} {Post : td_P} {k0 : Nat} {x1 x2 : Int32} {h : td_H} (hk0 : td_kd k0 = 0) (K : td_kd (ix (h k0 5)) = 5 ∧ (vp_in x1 12 ∧ (vp_in x2 12 ∧ (((if (h (ix (h k0 5) + 4) (ix x1)) = 4 then 1 else 0 : Int32) = (if (h (ix (h k0 5) + 4) (ix x2)) = 4 then 1 else 0 : Int32) → (((if (h (ix (h k0 5) + 2) (ix x2)) ≤ (h (ix (h k0 5) + 2) (ix x1)) then 0 else 1 : Int32) = 0 ∨ (if (h (ix (h k0 5) + 2) (ix x2)) ≤ (h (ix (h k0 5) + 2) (ix x1)) then 0 else 1 : Int32) = 1) ∧ Post (some (.int (if (h (ix (h k0 5) + 2) (ix x2)) ≤ (h (ix (h k0 5) + 2) (ix x1)) then 0 else 1 : Int32))) h)) ∧ (¬ (if (h (ix (h k0 5) + 4) (ix x1)) = 4 then 1 else 0 : Int32) = (if (h (ix (h k0 5) + 4) (ix x2)) = 4 then 1 else 0 : Int32) → (((if (h (ix (h k0 5) + 4) (ix x1)) = 4 then 1 else 0 : Int32) = 0 ∨ (if (h (ix (h k0 5) + 4) (ix x1)) = 4 then 1 else 0 : Int32) = 1) ∧ Post (some (.int (if (h (ix (h k0 5) + 4) (ix x1)) = 4 then 1 else 0 : Int32))) h)))))) : td_J G d mX0_isAhead Post 0 [(0, .ref k0), (1, .int x1), (2, .int x2)] [] h := by
  refine td_aload_n 0 dX0_isAhead_0 rfl ?_
  refine gf_X0_38 rfl hk0 dX0_isAhead_1 ?_
  obtain ⟨e1, K⟩ := K
  refine gf_X0_97 rfl e1 dX0_isAhead_4 ?_
  refine td_iload_n 1 dX0_isAhead_7 rfl ?_
  obtain ⟨e8, K⟩ := K
  refine td_ialdc (j := (ix x1)) (kd_5_3 e1) (by decide) e8 rfl dX0_isAhead_8 ?_
  refine td_iconst (v := 4) dX0_isAhead_9 (by decide) ?_
  have KJ18 : td_J G d mX0_isAhead Post 18 [(0, .ref k0), (1, .int x1), (2, .int x2)] [.int (if (h (ix (h k0 5) + 4) (ix x1)) = 4 then 1 else 0 : Int32)] h := by
    refine td_istore_n (lv2 := [(0, .ref k0), (1, .int x1), (2, .int x2), (3, .int (if (h (ix (h k0 5) + 4) (ix x1)) = 4 then 1 else 0 : Int32))]) dX0_isAhead_18 (by decide) rfl ?_
    refine td_iload_n 3 dX0_isAhead_19 rfl ?_
    refine td_aload_n 0 dX0_isAhead_20 rfl ?_
    refine gf_X0_38 rfl hk0 dX0_isAhead_21 ?_
    refine gf_X0_97 rfl e1 dX0_isAhead_24 ?_
    refine td_iload_n 2 dX0_isAhead_27 rfl ?_
    obtain ⟨e28, K⟩ := K
    refine td_ialdc (j := (ix x2)) (kd_5_3 e1) (by decide) e28 rfl dX0_isAhead_28 ?_
    refine td_iconst (v := 4) dX0_isAhead_29 (by decide) ?_
    have KJ38 : td_J G d mX0_isAhead Post 38 [(0, .ref k0), (1, .int x1), (2, .int x2), (3, .int (if (h (ix (h k0 5) + 4) (ix x1)) = 4 then 1 else 0 : Int32))] [.int (if (h (ix (h k0 5) + 4) (ix x2)) = 4 then 1 else 0 : Int32), .int (if (h (ix (h k0 5) + 4) (ix x1)) = 4 then 1 else 0 : Int32)] h := by
      obtain ⟨Kt, Kf⟩ := K
      refine td_icmp_eq (tgt := 43) dX0_isAhead_38 (by decide) (fun q38 => ?_) (fun q38 => ?_)
      · have K := Kt q38
        refine td_aload_n 0 dX0_isAhead_43 rfl ?_
        refine gf_X0_38 rfl hk0 dX0_isAhead_44 ?_
        refine gf_X0_94 rfl e1 dX0_isAhead_47 ?_
        refine td_iload_n 1 dX0_isAhead_50 rfl ?_
        refine td_ialdc (j := (ix x1)) (kd_5_1 e1) (by decide) e8 rfl dX0_isAhead_51 ?_
        refine td_aload_n 0 dX0_isAhead_52 rfl ?_
        refine gf_X0_38 rfl hk0 dX0_isAhead_53 ?_
        refine gf_X0_94 rfl e1 dX0_isAhead_56 ?_
        refine td_iload_n 2 dX0_isAhead_59 rfl ?_
        refine td_ialdc (j := (ix x2)) (kd_5_1 e1) (by decide) e28 rfl dX0_isAhead_60 ?_
        have KJ69 : td_J G d mX0_isAhead Post 69 [(0, .ref k0), (1, .int x1), (2, .int x2), (3, .int (if (h (ix (h k0 5) + 4) (ix x1)) = 4 then 1 else 0 : Int32))] [.int (if (h (ix (h k0 5) + 2) (ix x2)) ≤ (h (ix (h k0 5) + 2) (ix x1)) then 0 else 1 : Int32)] h := by
          obtain ⟨e69, K⟩ := K
          exact td_zreturn rfl (td_nb e69) dX0_isAhead_69 K
        refine td_icmp_ge (tgt := 68) dX0_isAhead_61 (by decide) (fun q61 => ?_) (fun q61 => ?_)
        · skip
          refine td_iconst (v := 0) dX0_isAhead_68 (by decide) ?_
          exact td_to KJ69 rfl (by rw [show (if (h (ix (h k0 5) + 2) (ix x2)) ≤ (h (ix (h k0 5) + 2) (ix x1)) then 0 else 1 : Int32) = _ from if_pos q61]) rfl
        · skip
          refine td_iconst (v := 1) dX0_isAhead_64 (by decide) ?_
          refine td_goto (tgt := 69) dX0_isAhead_65 (by decide) ?_
          exact td_to KJ69 rfl (by rw [show (if (h (ix (h k0 5) + 2) (ix x2)) ≤ (h (ix (h k0 5) + 2) (ix x1)) then 0 else 1 : Int32) = _ from if_neg q61]) rfl
      · have K := Kf q38
        refine td_iload_n 3 dX0_isAhead_41 rfl ?_
        obtain ⟨e42, K⟩ := K
        exact td_zreturn rfl (td_nb e42) dX0_isAhead_42 K
    refine td_icmp_ne (tgt := 37) dX0_isAhead_30 (by decide) (fun q30 => ?_) (fun q30 => ?_)
    · skip
      refine td_iconst (v := 0) dX0_isAhead_37 (by decide) ?_
      exact td_to KJ38 rfl (by rw [show (if (h (ix (h k0 5) + 4) (ix x2)) = 4 then 1 else 0 : Int32) = _ from if_neg q30]) rfl
    · skip
      refine td_iconst (v := 1) dX0_isAhead_33 (by decide) ?_
      refine td_goto (tgt := 38) dX0_isAhead_34 (by decide) ?_
      exact td_to KJ38 rfl (by rw [show (if (h (ix (h k0 5) + 4) (ix x2)) = 4 then 1 else 0 : Int32) = _ from if_pos q30]) rfl
  refine td_icmp_ne (tgt := 17) dX0_isAhead_10 (by decide) (fun q10 => ?_) (fun q10 => ?_)
  · skip
    refine td_iconst (v := 0) dX0_isAhead_17 (by decide) ?_
    exact td_to KJ18 rfl (by rw [show (if (h (ix (h k0 5) + 4) (ix x1)) = 4 then 1 else 0 : Int32) = _ from if_neg q10]) rfl
  · skip
    refine td_iconst (v := 1) dX0_isAhead_13 (by decide) ?_
    refine td_goto (tgt := 18) dX0_isAhead_14 (by decide) ?_
    exact td_to KJ18 rfl (by rw [show (if (h (ix (h k0 5) + 4) (ix x1)) = 4 then 1 else 0 : Int32) = _ from if_pos q10]) rfl
theorem c_isAhead {G : td_G} {d : Nat} {h : td_H} {k q : Nat} {c : nH} (hk : td_kd k = 0) (hq : td_kd q = 5) (h5 : h k 5 = nI q) (hP : dP c q h) (x1 x2 : Int32) (h1 : vp_in x1 12) (h2 : vp_in x2 12) (n1 : ix x1 < c 1 0) (n2 : ix x2 < c 1 0) : td_C G d mX0_isAhead [.ref k, .int x1, .int x2] h (eR (b2i (ahead c (ix x1) (ix x2) = true)) h) := by
  have hq107 := td_kd_lt hq (by decide)
  have e5 : ix (h k 5) = q := by rw [h5]; exact ixn (by omega)
  obtain ⟨p1, p2, p3⟩ := hP.2.2.2 _ n1
  obtain ⟨q1, q2, q3⟩ := hP.2.2.2 _ n2
  have b1 := hP.1.p n1
  have b2 := hP.1.p n2
  refine td_entry rfl (Nat.le_of_ble_eq_true rfl) rfl (gX0_isAhead_0 hk ?_)
  rw [e5, p1, p3, q1, q3]
  refine ⟨hq, h1, h2, ?_⟩
  have i1 : (if nI (c 3 (ix x1)) = 4 then 1 else 0 : Int32) = if c 3 (ix x1) = 4 then 1 else 0 := ite_c (nI_eq (b := 4) (by omega) (by decide)) _ _
  have i2 : (if nI (c 3 (ix x2)) = 4 then 1 else 0 : Int32) = if c 3 (ix x2) = 4 then 1 else 0 := ite_c (nI_eq (b := 4) (by omega) (by decide)) _ _
  have i3 : (if nI (c 4 (ix x2)) ≤ nI (c 4 (ix x1)) then 0 else 1 : Int32) = if c 4 (ix x2) ≤ c 4 (ix x1) then 0 else 1 := ite_c (nI_leI (by omega) (by omega)) _ _
  rw [i1, i2, i3]
  have e : ∀ v : Int32, v = b2i (ahead c (ix x1) (ix x2) = true) → (v = 0 ∨ v = 1) ∧ eR (b2i (ahead c (ix x1) (ix x2) = true)) h (some (.int v)) h := fun v z => by rw [z]; exact ⟨b2i_01 _, rfl, rfl⟩
  refine ⟨fun y => e _ ?_, fun y => e _ ?_⟩
  · unfold b2i ahead
    by_cases z1 : c 3 (ix x1) = 4 <;> by_cases z2 : c 3 (ix x2) = 4 <;> by_cases z3 : c 4 (ix x2) ≤ c 4 (ix x1) <;> simp [z1, z2, z3] at y ⊢ <;> omega
  · unfold b2i ahead
    by_cases z1 : c 3 (ix x1) = 4 <;> by_cases z2 : c 3 (ix x2) = 4 <;> simp [z1, z2] at y ⊢
theorem c_isAhead' {G : td_G} {d : Nat} {h : td_H} {k q : Nat} {c : nH} (hk : td_kd k = 0) (x1 x2 : Int32) (hq : td_kd q = 5) (h5 : h k 5 = nI q) (hP : dP c q h) (h1 : vp_in x1 12) (h2 : vp_in x2 12) (n1 : ix x1 < c 1 0) (n2 : ix x2 < c 1 0) : td_C G d mX0_isAhead [.ref k, .int x1, .int x2] h (eR (b2i (ahead c (ix x1) (ix x2) = true)) h) := c_isAhead hk hq h5 hP x1 x2 h1 h2 n1 n2
