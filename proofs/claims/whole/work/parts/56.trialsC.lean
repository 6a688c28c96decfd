/-! Door: trials: one less, told times -/
def cfgW (g : nH) (p : Nat) : nH := nu g 5 0 p
theorem cfgW_o (g : nH) (p a b : Nat) (h : a ≠ 5) : cfgW g p a b = g a b := by unfold cfgW; rw [nu_app, if_neg (fun z => h z.1)]
theorem cfgW_wf {g : nH} (x : wfC g) (p : Nat) : wfC (cfgW g p) := by
  have e : ∀ a b, a ≤ 4 → cfgW g p a b = g a b := fun a b z => cfgW_o g p a b (by omega)
  refine x.of ?_ (fun a b _ z => e a b z)
  have y := x.S
  unfold wfS at y ⊢
  simp only [e 0 _ (by decide)]
  exact y
theorem cfgW_P {g : nH} {q : Nat} {h : td_H} (x : dP g q h) (p : Nat) : dP (cfgW g p) q h := by
  obtain ⟨w, a1, a2, a3⟩ := x
  have e : ∀ a b, a ≤ 4 → cfgW g p a b = g a b := fun a b z => cfgW_o g p a b (by omega)
  refine ⟨cfgW_wf w p, fun i hi => ?_, ?_, fun j hj => ?_⟩
  · rw [e 0 i (by decide)]; exact a1 i hi
  · rw [e 1 0 (by decide)]; exact a2
  · rw [e 1 0 (by decide)] at hj
    rw [e 2 j (by decide), e 3 j (by decide), e 4 j (by decide)]; exact a3 j hj
set_option maxRecDepth 20000 in
set_option maxHeartbeats 4000000 in
theorem gX8_lossWithout_0 {G : td_G} {d : Nat} {Post : td_P} {q : Nat} {c : nH} {k1 : Nat} {x2 : Int32} {h : td_H} (hk1 : td_kd k1 = 5) (K : k1 + 4 < 49 ∧ dP c (k1) h ∧ dKn (49 + 1) h ∧ (((jshl 1 (h k1 4)) - 1) &&& ((jshl 1 x2) ^^^ (-1))) = ms (comM c) ∧ (∀ h15 : td_H, (FrC (49) h h15 ∧ ∃ Q, dQ c Q (49) (k1) h15 ∧ dV c s0 (49) h15) → (dQE c (49) q h15 ∧ dV c s0 (49) h15 ∧ vp_in 119 121 ∧ (∀ h25 : td_H, (FrD (49) h15 h25 ∧ dRun c (min (ix 119 + 1) 120) 0 (49) h25) → (Post (some (.int (h25 50 11))) h25))))) : td_J G (d + 6) mX8_lossWithout Post 0 [(0, .ref 43), (1, .ref k1), (2, .int x2)] [] h := by
  refine td_aload_n 0 dX8_lossWithout_0 rfl ?_
  refine gf_X8_21 rfl kp_43 dX8_lossWithout_1 ?_
  refine td_aload_n 1 dX8_lossWithout_4 rfl ?_
  refine td_aload_n 1 dX8_lossWithout_5 rfl ?_
  refine cl_X8_66 rfl hk1 dX8_lossWithout_6 (Nat.le_of_ble_eq_true rfl) (c_P_everyone hk1) (eR_k ?_)
  refine td_eqs (st2 := [.int ((jshl 1 (h k1 4)) - 1), .ref k1, .ref 49]) rfl ?_
  refine td_iconst (v := 1) dX8_lossWithout_9 (by decide) ?_
  refine td_iload_n 2 dX8_lossWithout_10 rfl ?_
  refine td_ishl dX8_lossWithout_11 ?_
  refine td_iconst (v := (-1)) dX8_lossWithout_12 (by decide) ?_
  refine td_ixor dX8_lossWithout_13 ?_
  refine td_iand dX8_lossWithout_14 ?_
  obtain ⟨e15_0, K⟩ := K
  obtain ⟨e15_1, K⟩ := K
  obtain ⟨e15_2, K⟩ := K
  obtain ⟨e15_3, K⟩ := K
  refine cl_X8_70 rfl kp_49 dX8_lossWithout_15 (Nat.le_of_ble_eq_true rfl) (c_C_begin kp_49 hk1 (((jshl 1 (h k1 4)) - 1) &&& ((jshl 1 x2) ^^^ (-1))) e15_0 e15_1 e15_2 e15_3) ?_
  rintro _ h15 ⟨rfl, f15⟩
  have K := K h15 f15
  refine td_eqs (st2 := []) rfl ?_
  refine td_aload_n 0 dX8_lossWithout_18 rfl ?_
  refine gf_X8_21 rfl kp_43 dX8_lossWithout_19 ?_
  refine td_bipush (v := 119) dX8_lossWithout_22 (by decide) ?_
  refine td_iconst (v := 0) dX8_lossWithout_24 (by decide) ?_
  obtain ⟨e25_0, K⟩ := K
  obtain ⟨e25_1, K⟩ := K
  obtain ⟨e25_2, K⟩ := K
  refine cl_X8_74 rfl kp_49 dX8_lossWithout_25 (Nat.le_of_ble_eq_true rfl) (c_C_run' 119 0 e25_0 e25_1 e25_2) ?_
  rintro _ h25 ⟨rfl, f25⟩
  have K := K h25 f25
  refine td_eqs (st2 := []) rfl ?_
  refine td_aload_n 0 dX8_lossWithout_28 rfl ?_
  refine gf_X8_21 rfl kp_43 dX8_lossWithout_29 ?_
  refine gf_X8_104 rfl kp_49 dX8_lossWithout_32 ?_
  refine gf_X8_108 rfl kp_50 dX8_lossWithout_35 ?_
  exact td_ireturn rfl dX8_lossWithout_38 K
theorem c_R_without {G : td_G} {d : Nat} {h : td_H} {g : nH} (x : Int32) (hP : dP g 1 h) (hK : dKn 50 h) (hx : vp_in x 12) : td_C G (d + 6) mX8_lossWithout [.ref 43, .ref 1, .int x] h (fun r h' => r = some (.int (nI (lossE (cfgW g (ix x))))) ∧ (∀ a b, ¬ (49 ≤ a ∧ a ≤ 63) → h' a b = h a b) ∧ dKn 50 h') := by
  obtain ⟨p, hp, rfl⟩ := vp_in_of hx (by decide)
  rw [ixn (by omega)]
  have hn := hP.1.n
  have n1 : cfgW g p 1 0 = g 1 0 := cfgW_o g p 1 0 (by decide)
  refine td_entry rfl (Nat.le_of_ble_eq_true rfl) rfl (gX8_lossWithout_0 (q := 1) (c := cfgW g p) (k1 := 1) rfl ⟨by decide, cfgW_P hP p, hK, ?_, fun h15 hb => ?_⟩)
  · rw [hP.2.2.1, ms_all hn, ms_one hp, ms_andn]
    refine ms_ext (fun j _ => ?_)
    unfold comM
    rw [n1, show cfgW g p 5 0 = p by unfold cfgW; rw [nu_app, if_pos ⟨rfl, rfl⟩]]
  · obtain ⟨hbF, Q, hQ, hV⟩ := hb
    refine ⟨⟨Q, hQ⟩, hV, by unfold vp_in; decide, fun h25 hr => ?_⟩
    rw [show min (ix 119 + 1) 120 = 120 by decide] at hr
    refine ⟨by rw [show h25 50 11 = _ from hr.2.full.2.2.1.2.2.2]; rfl, fun a b z => ?_, dQE.kn ⟨Q, hQ⟩ hr.1⟩
    rw [hr.1 _ _ (by unfold dynP; omega), hbF _ _ (by omega)]
def cfgE (g : nH) (pr : Nat) : nH := fun a b => if a = 0 ∧ b = 3 then pr / 9 else if a = 0 ∧ b = 4 then 1 + pr % 9 else g a b
theorem cfgE_o (g : nH) (k a b : Nat) (h : a ≠ 0) : cfgE g k a b = g a b := by unfold cfgE; rw [if_neg (fun z => h z.1), if_neg (fun z => h z.1)]
theorem cfgE_s {g : nH} (x : wfC g) {k : Nat} (hk : k < 189) : wfS (cfgE g k) := by
  obtain ⟨b0, b1, b2, b3, b4, b5, b6, b7, b8⟩ := x.S
  have e : ∀ i, i ≠ 3 → i ≠ 4 → cfgE g k 0 i = g 0 i := fun i n0 n1 => by unfold cfgE; rw [if_neg (fun z => n0 z.2), if_neg (fun z => n1 z.2)]
  have e3 : cfgE g k 0 3 = k / 9 := rfl
  have e4 : cfgE g k 0 4 = 1 + k % 9 := rfl
  unfold wfS
  rw [e3, e4, e 0 (by decide) (by decide), e 1 (by decide) (by decide), e 2 (by decide) (by decide), e 5 (by decide) (by decide), e 6 (by decide) (by decide), e 7 (by decide) (by decide), e 8 (by decide) (by decide)]
  exact ⟨b0, b1, b2, by omega, by omega, b5, b6, b7, b8⟩
set_option maxRecDepth 20000 in
set_option maxHeartbeats 4000000 in
theorem gX8_findEnds_0 {G : td_G} {d : Nat} {Post : td_P} {k1 : Nat} {h : td_H} (hk1 : td_kd k1 = 5) (K : ((h 43 9) = 0 → ((44 + 4 < k1 ∨ k1 + 4 < 44) ∧ (∀ h13 : td_H, (FrQ (44) h h13 ∧ ∀ c, dP c (k1) h → dP c (44) h13) → (td_J G (d + 6) mX8_findEnds Post 18 [(0, .ref 43), (1, .ref k1), (2, .int 0)] [] h13)))) ∧ (¬ (h 43 9) = 0 → (Post none h))) : td_J G (d + 6) mX8_findEnds Post 0 [(0, .ref 43), (1, .ref k1)] [] h := by
  refine td_aload_n 0 dX8_findEnds_0 rfl ?_
  refine gf_X8_53 rfl kp_43 dX8_findEnds_1 ?_
  obtain ⟨Kt, Kf⟩ := K
  refine td_if_eq (tgt := 8) dX8_findEnds_4 (by decide) (fun q4 => ?_) (fun q4 => ?_)
  · have K := Kt q4
    refine td_aload_n 0 dX8_findEnds_8 rfl ?_
    refine gf_X8_12 rfl kp_43 dX8_findEnds_9 ?_
    refine td_aload_n 1 dX8_findEnds_12 rfl ?_
    obtain ⟨e13_0, K⟩ := K
    refine cl_X8_59 rfl kp_44 dX8_findEnds_13 (Nat.le_of_ble_eq_true rfl) (c_P_become kp_44 hk1 e13_0) ?_
    rintro _ h13 ⟨rfl, f13⟩
    have K := K h13 f13
    refine td_eqs (st2 := []) rfl ?_
    refine td_iconst (v := 0) dX8_findEnds_16 (by decide) ?_
    refine td_istore_n (lv2 := [(0, .ref 43), (1, .ref k1), (2, .int 0)]) dX8_findEnds_17 (by decide) rfl ?_
    exact K
  · have K := Kf q4
    exact td_return rfl dX8_findEnds_7 K
set_option maxRecDepth 20000 in
set_option maxHeartbeats 4000000 in
theorem gX8_findEnds_18 {G : td_G} {d : Nat} {Post : td_P} {q : Nat} {c : nH} {k1 : Nat} {x2 : Int32} {h : td_H} (hk1 : td_kd k1 = 5) (K : (189 ≤ x2 → (Post none (hu h 43 9 1))) ∧ (¬ 189 ≤ x2 → (∀ H52 : td_H, H52 = hu (hu h 45 3 (x2 / 9)) 45 4 (1 + (jrem x2 9)) → (44 + 4 < 49 ∧ dP c (44) H52 ∧ dKn (49 + 1) H52 ∧ ((jshl 1 (H52 44 4)) - 1) = ms (comM c) ∧ (∀ h68 : td_H, (FrC (49) H52 h68 ∧ ∃ Q, dQ c Q (49) (44) h68 ∧ dV c s0 (49) h68) → (dQE c (49) q h68 ∧ dV c s0 (49) h68 ∧ vp_in 119 121 ∧ (∀ h78 : td_H, (FrD (49) h68 h78 ∧ dRun c (min (ix 119 + 1) 120) 1 (49) h78) → (td_J G (d + 6) mX8_findEnds Post 83 [(0, .ref 43), (1, .ref k1), (2, .int x2), (3, .int 0)] [] h78)))))))) : td_J G (d + 6) mX8_findEnds Post 18 [(0, .ref 43), (1, .ref k1), (2, .int x2)] [] h := by
  refine td_iload_n 2 dX8_findEnds_18 rfl ?_
  refine td_sipush (v := 189) dX8_findEnds_19 (by decide) ?_
  obtain ⟨Kt, Kf⟩ := K
  refine td_icmp_ge (tgt := 129) dX8_findEnds_22 (by decide) (fun q22 => ?_) (fun q22 => ?_)
  · have K := Kt q22
    refine td_aload_n 0 dX8_findEnds_129 rfl ?_
    refine td_iconst (v := 1) dX8_findEnds_130 (by decide) ?_
    refine pf_X8_53 rfl kp_43 (by decide) dX8_findEnds_131 ?_
    exact td_return rfl dX8_findEnds_134 K
  · have K := Kf q22
    refine td_aload_n 0 dX8_findEnds_25 rfl ?_
    refine gf_X8_12 rfl kp_43 dX8_findEnds_26 ?_
    refine gf_X8_63 rfl kp_44 dX8_findEnds_29 ?_
    refine td_iconst (v := 3) dX8_findEnds_32 (by decide) ?_
    refine td_iload_n 2 dX8_findEnds_33 rfl ?_
    refine td_bipush (v := 9) dX8_findEnds_34 (by decide) ?_
    refine td_idiv dX8_findEnds_36 (by decide) ?_
    refine td_iastc (j := 3) kp_45 (by decide) (by unfold vp_in; decide) (by decide) dX8_findEnds_37 ?_
    refine td_aload_n 0 dX8_findEnds_38 rfl ?_
    refine gf_X8_12 rfl kp_43 dX8_findEnds_39 ?_
    refine gf_X8_63 rfl kp_44 dX8_findEnds_42 ?_
    refine td_iconst (v := 4) dX8_findEnds_45 (by decide) ?_
    refine td_iconst (v := 1) dX8_findEnds_46 (by decide) ?_
    refine td_iload_n 2 dX8_findEnds_47 rfl ?_
    refine td_bipush (v := 9) dX8_findEnds_48 (by decide) ?_
    refine td_irem dX8_findEnds_50 (by decide) ?_
    refine td_iadd dX8_findEnds_51 ?_
    refine td_iastc (j := 4) kp_45 (by decide) (by unfold vp_in; decide) (by decide) dX8_findEnds_52 ?_
    obtain ⟨H52, E52⟩ : ∃ z : td_H, z = hu (hu h 45 3 (x2 / 9)) 45 4 (1 + (jrem x2 9)) := ⟨_, rfl⟩
    have K := K H52 E52
    refine td_eqh E52 ?_
    refine td_aload_n 0 dX8_findEnds_53 rfl ?_
    refine gf_X8_21 rfl kp_43 dX8_findEnds_54 ?_
    refine td_aload_n 0 dX8_findEnds_57 rfl ?_
    refine gf_X8_12 rfl kp_43 dX8_findEnds_58 ?_
    refine td_aload_n 0 dX8_findEnds_61 rfl ?_
    refine gf_X8_12 rfl kp_43 dX8_findEnds_62 ?_
    refine cl_X8_66 rfl kp_44 dX8_findEnds_65 (Nat.le_of_ble_eq_true rfl) (c_P_everyone kp_44) (eR_k ?_)
    refine td_eqs (st2 := [.int ((jshl 1 (H52 44 4)) - 1), .ref 44, .ref 49]) rfl ?_
    obtain ⟨e68_0, K⟩ := K
    obtain ⟨e68_1, K⟩ := K
    obtain ⟨e68_2, K⟩ := K
    obtain ⟨e68_3, K⟩ := K
    refine cl_X8_70 rfl kp_49 dX8_findEnds_68 (Nat.le_of_ble_eq_true rfl) (c_C_begin kp_49 kp_44 ((jshl 1 (H52 44 4)) - 1) e68_0 e68_1 e68_2 e68_3) ?_
    rintro _ h68 ⟨rfl, f68⟩
    have K := K h68 f68
    refine td_eqs (st2 := []) rfl ?_
    refine td_aload_n 0 dX8_findEnds_71 rfl ?_
    refine gf_X8_21 rfl kp_43 dX8_findEnds_72 ?_
    refine td_bipush (v := 119) dX8_findEnds_75 (by decide) ?_
    refine td_iconst (v := 1) dX8_findEnds_77 (by decide) ?_
    obtain ⟨e78_0, K⟩ := K
    obtain ⟨e78_1, K⟩ := K
    obtain ⟨e78_2, K⟩ := K
    refine cl_X8_74 rfl kp_49 dX8_findEnds_78 (Nat.le_of_ble_eq_true rfl) (c_C_run' 119 1 e78_0 e78_1 e78_2) ?_
    rintro _ h78 ⟨rfl, f78⟩
    have K := K h78 f78
    refine td_eqs (st2 := []) rfl ?_
    refine td_iconst (v := 0) dX8_findEnds_81 (by decide) ?_
    refine td_istore_n (lv2 := [(0, .ref 43), (1, .ref k1), (2, .int x2), (3, .int 0)]) dX8_findEnds_82 (by decide) rfl ?_
    exact K
set_option maxRecDepth 20000 in
set_option maxHeartbeats 4000000 in
theorem gX8_findEnds_83 {G : td_G} {d : Nat} {Post : td_P} {k1 : Nat} {x2 x3 : Int32} {h : td_H} (hk1 : td_kd k1 = 5) (K : ((h 44 4) ≤ x3 → td_J G (d + 6) mX8_findEnds Post 18 [(0, .ref 43), (1, .ref k1), (2, .int (x2 + 1))] [] h) ∧ (¬ (h 44 4) ≤ x3 → (vp_in x3 12 ∧ (vp_in ((x2 * 12) + x3) 2268 ∧ (∀ H116 : td_H, H116 = hu h 76 (ix ((x2 * 12) + x3)) (h 59 (ix x3)) → (td_J G (d + 6) mX8_findEnds Post 83 [(0, .ref 43), (1, .ref k1), (2, .int x2), (3, .int (x3 + 1))] [] H116)))))) : td_J G (d + 6) mX8_findEnds Post 83 [(0, .ref 43), (1, .ref k1), (2, .int x2), (3, .int x3)] [] h := by
  refine td_iload_n 3 dX8_findEnds_83 rfl ?_
  refine td_aload_n 0 dX8_findEnds_84 rfl ?_
  refine gf_X8_12 rfl kp_43 dX8_findEnds_85 ?_
  refine gf_X8_82 rfl kp_44 dX8_findEnds_88 ?_
  obtain ⟨Kt, Kf⟩ := K
  refine td_icmp_ge (tgt := 123) dX8_findEnds_91 (by decide) (fun q91 => ?_) (fun q91 => ?_)
  · have K := Kt q91
    refine td_iinc 2 (v := x2 + 1) (lv2 := [(0, .ref 43), (1, .ref k1), (2, .int (x2 + 1)), (3, .int x3)]) dX8_findEnds_123 rfl (congrArg (x2 + ·) (by decide)) (by decide) rfl ?_
    refine td_goto (tgt := 18) dX8_findEnds_126 (by decide) ?_
    refine td_drop (lv2 := [(0, .ref 43), (1, .ref k1), (2, .int (x2 + 1))]) [0, 1, 2] rfl ?_
    exact K
  · have K := Kf q91
    refine td_aload_n 0 dX8_findEnds_94 rfl ?_
    refine gf_X8_42 rfl kp_43 dX8_findEnds_95 ?_
    refine td_iload_n 2 dX8_findEnds_98 rfl ?_
    refine td_bipush (v := 12) dX8_findEnds_99 (by decide) ?_
    refine td_imul dX8_findEnds_101 ?_
    refine td_iload_n 3 dX8_findEnds_102 rfl ?_
    refine td_iadd dX8_findEnds_103 ?_
    refine td_aload_n 0 dX8_findEnds_104 rfl ?_
    refine gf_X8_21 rfl kp_43 dX8_findEnds_105 ?_
    refine gf_X8_78 rfl kp_49 dX8_findEnds_108 ?_
    refine gf_X8_113 rfl kp_56 dX8_findEnds_111 ?_
    refine td_iload_n 3 dX8_findEnds_114 rfl ?_
    obtain ⟨e115, K⟩ := K
    refine td_ialdc (j := (ix x3)) kp_59 (by decide) e115 rfl dX8_findEnds_115 ?_
    obtain ⟨e116, K⟩ := K
    refine td_iastc (j := (ix ((x2 * 12) + x3))) kp_76 (by decide) e116 rfl dX8_findEnds_116 ?_
    obtain ⟨H116, E116⟩ : ∃ z : td_H, z = hu h 76 (ix ((x2 * 12) + x3)) (h 59 (ix x3)) := ⟨_, rfl⟩
    have K := K H116 E116
    refine td_eqh E116 ?_
    refine td_iinc 3 (v := x3 + 1) (lv2 := [(0, .ref 43), (1, .ref k1), (2, .int x2), (3, .int (x3 + 1))]) dX8_findEnds_117 rfl (congrArg (x3 + ·) (by decide)) (by decide) rfl ?_
    refine td_goto (tgt := 83) dX8_findEnds_120 (by decide) ?_
    exact K
def enI (g : nH) (K : Nat) (h : td_H) : Prop := ∀ pr, pr < K → ∀ p, p < g 1 0 → h 76 (pr * 12 + p) = nI (sRun (cfgE g pr) 120 3 p)
def FrM3 (h h' : td_H) : Prop := ∀ a b, ¬ ((a = 43 ∧ b = 9) ∨ (44 ≤ a ∧ a ≤ 63) ∨ a = 76) → h' a b = h a b
theorem c_R_ends {G : td_G} {d : Nat} {h : td_H} {g : nH} (hP : dP g 1 h) (h5 : 12 ≤ g 5 0) (hK : dKn 50 h) (hd : h 43 9 = 0 ∨ (h 43 9 = 1 ∧ enI g 189 h)) : td_C G (d + 6) mX8_findEnds [.ref 43, .ref 1] h (fun r h' => r = none ∧ FrM3 h h' ∧ dKn 50 h' ∧ h' 43 9 = 1 ∧ enI g 189 h') := by
  have hn := hP.1.n
  refine td_entry rfl (Nat.le_of_ble_eq_true rfl) rfl (gX8_findEnds_0 (k1 := 1) rfl ⟨fun _ => ⟨by omega, fun h13 hh => ?_⟩, fun y => ?_⟩)
  · have P13 := hh.2 g hP
    refine td_forH 189 (fun k => [(0, .ref 43), (1, .ref 1), (2, .int (nI k))]) (fun k h1 => FrM3 h h1 ∧ dKn 50 h1 ∧ enI g k h1 ∧ ∃ c', dP c' 44 h1 ∧ (∀ a b, 1 ≤ a → c' a b = g a b) ∧ ∀ i, i ≠ 3 → i ≠ 4 → c' 0 i = g 0 i) rfl ⟨fun a b z => hh.1 _ _ (by omega), hK.fr (fun a b z1 z2 => hh.1 _ _ (by omega)), fun k hk => absurd hk (by omega), g, P13, fun _ _ _ => rfl, fun _ _ _ => rfl⟩ (fun k hk h1 hI ih => ?_) (fun h1 hI => ?_)
    · obtain ⟨hF, hK1, hD, c', hP', e1, e0⟩ := hI
      have v1 : nI k / 9 = nI (k / 9) := pk_div (a := k) (d := 9) (by omega) (by decide) (by decide)
      have v2 : 1 + jrem (nI k) 9 = nI (1 + k % 9) := by rw [show jrem (nI k) 9 = nI (k % 9) from jrem_n (b := 9) (by omega) (by decide) (by decide), show (1 : Int32) = nI 1 from rfl, nI_add]
      have hc : wfC (cfgE g k) := hP.1.of (cfgE_s hP.1 hk) (fun a b z _ => cfgE_o g k a b (by omega))
      have n1 : cfgE g k 1 0 = g 1 0 := cfgE_o g k 1 0 (by decide)
      have g5 : 12 ≤ cfgE g k 5 0 := by rw [cfgE_o g k 5 0 (by decide)]; exact h5
      refine gX8_findEnds_18 (q := 44) (c := cfgE g k) rfl ⟨fun y => absurd (le_of (a := 189) y) (by omega), fun _ H52 E52 => ?_⟩
      rw [v1, v2] at E52
      have o52 : ∀ a b, a ≠ 45 → H52 a b = h1 a b := fun a b z => by rw [E52, hu_app, if_neg (fun w => z w.1), hu_app, if_neg (fun w => z w.1)]
      have Pc : dP (cfgE g k) 44 H52 := by
        refine hP'.sets (cfgE_s hP.1 hk) (fun a b z _ => by rw [cfgE_o g k a b (by omega), e1 a b z]) (fun i hi => ?_) o52
        rw [E52, hu_app, hu_app]
        unfold cfgE
        by_cases i5 : i = 4
        · subst i5; simp
        · by_cases i1 : i = 3
          · subst i1; simp
          · simp [i1, i5]
            rw [← e0 i i1 i5]
            exact hP'.2.1 i hi
      refine ⟨by decide, Pc, hK1.fr (fun a b z1 z2 => o52 a b (by omega)), ?_, fun h68 hb => ?_⟩
      · rw [Pc.2.2.1]
        exact com_all (c := cfgE g k) g5 hc.n
      · obtain ⟨hbF, Q, hQ, hV⟩ := hb
        refine ⟨⟨Q, hQ⟩, hV, by unfold vp_in; decide, fun h78 hr => ?_⟩
        rw [show min (ix 119 + 1) 120 = 120 by decide] at hr
        have ends := fun p hp => (hr.2.ends (p := p) g5 hc.n hp).1
        have P68 : dP (cfgE g k) 44 h68 := hbF.P (Or.inl (by decide)) Pc
        have P78 : dP (cfgE g k) 44 h78 := hr.1.P (by decide) P68
        have o78 : ∀ a b, ¬ (44 ≤ a ∧ a ≤ 63) → h78 a b = h1 a b := fun a b z => by rw [hr.1 _ _ (by unfold dynP; omega), hbF _ _ (by omega), o52 _ _ (by omega)]
        refine td_forH (g 1 0) (fun p => [(0, .ref 43), (1, .ref 1), (2, .int (nI k)), (3, .int (nI p))]) (fun p h2 => (∀ a b, a ≠ 76 → h2 a b = h78 a b) ∧ (∀ b, b < k * 12 → h2 76 b = h1 76 b) ∧ ∀ j, j < p → h2 76 (k * 12 + j) = nI (sRun (cfgE g k) 120 3 j)) rfl ⟨fun _ _ _ => rfl, fun b _ => o78 _ _ (by omega), fun j hj => absurd hj (by omega)⟩ (fun p hp h2 hI2 ih2 => ?_) (fun h2 hI2 => ?_)
        · obtain ⟨a1, a2, a3⟩ := hI2
          have e4 : h2 44 4 = nI (g 1 0) := by rw [a1 _ _ (by omega), P78.2.2.1, n1]
          have ei : nI k * 12 + nI p = nI (k * 12 + p) := by rw [show (12 : Int32) = nI 12 from rfl, pk_mul, nI_add]
          refine gX8_findEnds_83 rfl ?_
          rw [e4, ei, ixn (i := p) (by omega), ixn (i := k * 12 + p) (by omega), a1 59 p (by omega), show h78 59 p = nI (sRun (cfgE g k) 120 3 p) from ends p (by rw [n1]; exact hp)]
          refine ⟨fun y => absurd (le_of y) (by omega), fun _ => ⟨vp_in_nI (by omega) (by decide), vp_in_nI (by omega) (by decide), fun H116 E116 => ?_⟩⟩
          refine td_to (ih2 H116 ⟨fun a b z => ?_, fun b hb2 => ?_, fun j hj => ?_⟩) (by rw [nI_1]) rfl rfl
          · rw [E116, hu_app, if_neg (fun w => z w.1)]; exact a1 a b z
          · rw [E116, hu_app, if_neg (by omega)]; exact a2 b hb2
          · rw [E116, hu_app]
            by_cases z : j = p
            · rw [if_pos ⟨rfl, by omega⟩, z]
            · rw [if_neg (by omega)]; exact a3 j (by omega)
        · obtain ⟨a1, a2, a3⟩ := hI2
          have e4 : h2 44 4 = nI (g 1 0) := by rw [a1 _ _ (by omega), P78.2.2.1, n1]
          refine gX8_findEnds_83 rfl ?_
          rw [e4]
          refine ⟨fun _ => ?_, fun y => absurd (nle_of y) (by omega)⟩
          refine td_to (ih h2 ⟨fun a b z => ?_, ?_, fun pr hpr p hp => ?_, cfgE g k, ?_, fun a b z => cfgE_o g k a b (by omega), fun i i3 i4 => ?_⟩) (by rw [nI_1]) rfl rfl
          · rw [a1 _ _ (by omega), o78 _ _ (by omega)]; exact hF a b z
          · exact (dQE.kn ⟨Q, hQ⟩ hr.1).fr (fun a b z1 z2 => a1 a b (by omega))
          · by_cases z : pr = k
            · rw [z]; exact a3 p hp
            · rw [a2 _ (by omega)]; exact hD pr (by omega) p hp
          · refine ⟨P78.1, fun i hi => ?_, ?_, fun p hp => ?_⟩
            · rw [a1 _ _ (by omega)]; exact P78.2.1 i hi
            · rw [a1 _ _ (by omega)]; exact P78.2.2.1
            · rw [a1 _ _ (by omega), a1 _ _ (by omega), a1 _ _ (by omega)]; exact P78.2.2.2 p hp
          · unfold cfgE
            rw [if_neg (fun z => i3 z.2), if_neg (fun z => i4 z.2)]
    · obtain ⟨hF, hK1, hD, -⟩ := hI
      refine gX8_findEnds_18 (q := 0) (c := g) rfl ⟨fun _ => ⟨rfl, fun a b z => ?_, hK1.fr (fun a b z1 z2 => by rw [hu_app, if_neg (by omega)]), by rw [hu_app, if_pos ⟨rfl, rfl⟩], fun i hi p hp => ?_⟩, fun y => absurd (by decide) y⟩
      · rw [hu_app, if_neg (by omega)]; exact hF a b z
      · rw [hu_app, if_neg (by omega)]; exact hD i hi p hp
  · rcases hd with z | z
    · exact absurd z y
    · exact ⟨rfl, fun _ _ _ => rfl, hK, z.1, z.2⟩
set_option maxRecDepth 20000 in
set_option maxHeartbeats 4000000 in
theorem gX8_agrees_0 {G : td_G} {d : Nat} {Post : td_P} {k2 : Nat} {x1 x3 x4 : Int32} {h : td_H} (hk2 : td_kd k2 = 6) (K : td_J G (d + 2) mX8_agrees Post 3 [(0, .ref 43), (1, .int x1), (2, .ref k2), (3, .int x3), (4, .int x4), (5, .int x3)] [] h) : td_J G (d + 2) mX8_agrees Post 0 [(0, .ref 43), (1, .int x1), (2, .ref k2), (3, .int x3), (4, .int x4)] [] h := by
  refine td_iload_n 3 dX8_agrees_0 rfl ?_
  refine td_istore (lv2 := [(0, .ref 43), (1, .int x1), (2, .ref k2), (3, .int x3), (4, .int x4), (5, .int x3)]) dX8_agrees_1 (by decide) rfl ?_
  exact K
set_option maxRecDepth 20000 in
set_option maxHeartbeats 4000000 in
theorem gX8_agrees_3 {G : td_G} {d : Nat} {Post : td_P} {k2 : Nat} {x1 x3 x4 x5 : Int32} {h : td_H} (hk2 : td_kd k2 = 6) (K : ((x3 + (2 * x4)) ≤ x5 → (Post (some (.int 1)) h)) ∧ (¬ (x3 + (2 * x4)) ≤ x5 → (shL (k2) h ∧ (((b2i (0 ≤ (if b2i (0 ≤ x5 ∧ x5 < h (k2) 2) = 0 then 0 else h (k2 + 1) (ix x5) : Int32) ∧ (if b2i (0 ≤ x5 ∧ x5 < h (k2) 2) = 0 then 0 else h (k2 + 1) (ix x5) : Int32) < 12)) = 0 → (Post (some (.int 0)) h)) ∧ (¬ (b2i (0 ≤ (if b2i (0 ≤ x5 ∧ x5 < h (k2) 2) = 0 then 0 else h (k2 + 1) (ix x5) : Int32) ∧ (if b2i (0 ≤ x5 ∧ x5 < h (k2) 2) = 0 then 0 else h (k2 + 1) (ix x5) : Int32) < 12)) = 0 → (vp_in ((x1 * 12) + (if b2i (0 ≤ x5 ∧ x5 < h (k2) 2) = 0 then 0 else h (k2 + 1) (ix x5) : Int32)) 2268 ∧ (((h 76 (ix ((x1 * 12) + (if b2i (0 ≤ x5 ∧ x5 < h (k2) 2) = 0 then 0 else h (k2 + 1) (ix x5) : Int32)))) = (if b2i (0 ≤ (x5 + 1) ∧ (x5 + 1) < h (k2) 2) = 0 then 0 else h (k2 + 1) (ix (x5 + 1)) : Int32) → td_J G (d + 2) mX8_agrees Post 3 [(0, .ref 43), (1, .int x1), (2, .ref k2), (3, .int x3), (4, .int x4), (5, .int (x5 + 2))] [] h) ∧ (¬ (h 76 (ix ((x1 * 12) + (if b2i (0 ≤ x5 ∧ x5 < h (k2) 2) = 0 then 0 else h (k2 + 1) (ix x5) : Int32)))) = (if b2i (0 ≤ (x5 + 1) ∧ (x5 + 1) < h (k2) 2) = 0 then 0 else h (k2 + 1) (ix (x5 + 1)) : Int32) → (Post (some (.int 0)) h))))))))) : td_J G (d + 2) mX8_agrees Post 3 [(0, .ref 43), (1, .int x1), (2, .ref k2), (3, .int x3), (4, .int x4), (5, .int x5)] [] h := by
  refine td_iload 5 dX8_agrees_3 rfl ?_
  refine td_iload_n 3 dX8_agrees_5 rfl ?_
  refine td_iconst (v := 2) dX8_agrees_6 (by decide) ?_
  refine td_iload 4 dX8_agrees_7 rfl ?_
  refine td_imul dX8_agrees_9 ?_
  refine td_iadd dX8_agrees_10 ?_
  obtain ⟨Kt, Kf⟩ := K
  refine td_icmp_ge (tgt := 63) dX8_agrees_11 (by decide) (fun q11 => ?_) (fun q11 => ?_)
  · have K := Kt q11
    refine td_iconst (v := 1) dX8_agrees_63 (by decide) ?_
    exact td_zreturn rfl rfl dX8_agrees_64 K
  · have K := Kf q11
    refine td_aload_n 2 dX8_agrees_14 rfl ?_
    refine td_iload 5 dX8_agrees_15 rfl ?_
    obtain ⟨e17_0, K⟩ := K
    refine cl_X8_121 rfl hk2 dX8_agrees_17 (Nat.le_of_ble_eq_true rfl) (c_S_get hk2 x5 e17_0) (eR_k ?_)
    refine td_eqs (st2 := [.int (if b2i (0 ≤ x5 ∧ x5 < h (k2) 2) = 0 then 0 else h (k2 + 1) (ix x5) : Int32)]) rfl ?_
    refine td_istore (lv2 := [(0, .ref 43), (1, .int x1), (2, .ref k2), (3, .int x3), (4, .int x4), (5, .int x5), (6, .int (if b2i (0 ≤ x5 ∧ x5 < h (k2) 2) = 0 then 0 else h (k2 + 1) (ix x5) : Int32))]) dX8_agrees_20 (by decide) rfl ?_
    refine td_iload 6 dX8_agrees_22 rfl ?_
    refine td_bipush (v := 12) dX8_agrees_24 (by decide) ?_
    refine cl_X8_91 rfl dX8_agrees_26 (Nat.le_of_ble_eq_true rfl) (c_isIn (if b2i (0 ≤ x5 ∧ x5 < h (k2) 2) = 0 then 0 else h (k2 + 1) (ix x5) : Int32) 12) (eR_k ?_)
    refine td_eqs (st2 := [.int (b2i (0 ≤ (if b2i (0 ≤ x5 ∧ x5 < h (k2) 2) = 0 then 0 else h (k2 + 1) (ix x5) : Int32) ∧ (if b2i (0 ≤ x5 ∧ x5 < h (k2) 2) = 0 then 0 else h (k2 + 1) (ix x5) : Int32) < 12))]) rfl ?_
    obtain ⟨Kt, Kf⟩ := K
    refine td_if_eq (tgt := 55) dX8_agrees_29 (by decide) (fun q29 => ?_) (fun q29 => ?_)
    · have K := Kt q29
      refine td_iconst (v := 0) dX8_agrees_55 (by decide) ?_
      exact td_zreturn rfl rfl dX8_agrees_56 K
    · have K := Kf q29
      refine td_aload_n 0 dX8_agrees_32 rfl ?_
      refine gf_X8_42 rfl kp_43 dX8_agrees_33 ?_
      refine td_iload_n 1 dX8_agrees_36 rfl ?_
      refine td_bipush (v := 12) dX8_agrees_37 (by decide) ?_
      refine td_imul dX8_agrees_39 ?_
      refine td_iload 6 dX8_agrees_40 rfl ?_
      refine td_iadd dX8_agrees_42 ?_
      obtain ⟨e43, K⟩ := K
      refine td_ialdc (j := (ix ((x1 * 12) + (if b2i (0 ≤ x5 ∧ x5 < h (k2) 2) = 0 then 0 else h (k2 + 1) (ix x5) : Int32)))) kp_76 (by decide) e43 rfl dX8_agrees_43 ?_
      refine td_aload_n 2 dX8_agrees_44 rfl ?_
      refine td_iload 5 dX8_agrees_45 rfl ?_
      refine td_iconst (v := 1) dX8_agrees_47 (by decide) ?_
      refine td_iadd dX8_agrees_48 ?_
      refine cl_X8_121 rfl hk2 dX8_agrees_49 (Nat.le_of_ble_eq_true rfl) (c_S_get hk2 (x5 + 1) e17_0) (eR_k ?_)
      refine td_eqs (st2 := [.int (if b2i (0 ≤ (x5 + 1) ∧ (x5 + 1) < h (k2) 2) = 0 then 0 else h (k2 + 1) (ix (x5 + 1)) : Int32), .int (h 76 (ix ((x1 * 12) + (if b2i (0 ≤ x5 ∧ x5 < h (k2) 2) = 0 then 0 else h (k2 + 1) (ix x5) : Int32))))]) rfl ?_
      obtain ⟨Kt, Kf⟩ := K
      refine td_icmp_eq (tgt := 57) dX8_agrees_52 (by decide) (fun q52 => ?_) (fun q52 => ?_)
      · have K := Kt q52
        refine td_iinc 5 (v := x5 + 2) (lv2 := [(0, .ref 43), (1, .int x1), (2, .ref k2), (3, .int x3), (4, .int x4), (5, .int (x5 + 2)), (6, .int (if b2i (0 ≤ x5 ∧ x5 < h (k2) 2) = 0 then 0 else h (k2 + 1) (ix x5) : Int32))]) dX8_agrees_57 rfl (congrArg (x5 + ·) (by decide)) (by decide) rfl ?_
        refine td_goto (tgt := 3) dX8_agrees_60 (by decide) ?_
        refine td_drop (lv2 := [(0, .ref 43), (1, .int x1), (2, .ref k2), (3, .int x3), (4, .int x4), (5, .int (x5 + 2))]) [0, 1, 2, 3, 4, 5] rfl ?_
        exact K
      · have K := Kf q52
        refine td_iconst (v := 0) dX8_agrees_55 (by decide) ?_
        exact td_zreturn rfl rfl dX8_agrees_56 K
def agW (g : nH) (pk tk : Nat → Nat) (pr k : Nat) : Bool := decide (sRun (cfgE g pr) 120 3 (pk k) = tk k)
/-- m told pairs from fr on in the sheet at k2 -/
def toI (g : nH) (k2 fr m : Nat) (pk tk : Nat → Nat) (h : td_H) : Prop := (∃ n, n ≤ 16 ∧ h k2 2 = nI n ∧ fr + 2 * m ≤ n) ∧ ∀ k, k < m → h (k2 + 1) (fr + 2 * k) = nI (pk k) ∧ pk k < g 1 0 ∧ h (k2 + 1) (fr + 2 * k + 1) = nI (tk k) ∧ tk k ≤ 120
theorem c_R_agrees {G : td_G} {d : Nat} {h : td_H} {g : nH} {k2 : Nat} (hk2 : td_kd k2 = 6) (pk tk : Nat → Nat) (fr m pr : Nat) (x1 x3 x4 : Int32) (hwf : wfC g) (h1 : x1 = nI pr) (h3 : x3 = nI fr) (h4 : x4 = nI m) (hpr : pr < 189) (hE : enI g 189 h) (hT : toI g k2 fr m pk tk h) : td_C G (d + 2) mX8_agrees [.ref 43, .int x1, .ref k2, .int x3, .int x4] h (eR (b2i (allB (agW g pk tk pr) m = true)) h) := by
  subst h1 h3 h4
  obtain ⟨⟨n, hn, e2, hfr⟩, hT⟩ := hT
  have hn12 := hwf.n
  have hc : wfC (cfgE g pr) := hwf.of (cfgE_s hwf hpr) (fun a b z _ => cfgE_o g pr a b (by omega))
  refine td_entry rfl (Nat.le_of_ble_eq_true rfl) rfl (gX8_agrees_0 hk2 ?_)
  have lim : nI fr + 2 * nI m = nI (fr + 2 * m) := by rw [show (2 : Int32) = nI 2 from rfl, pk_mul, nI_add]
  have get : ∀ i, i < n → (if b2i (0 ≤ nI i ∧ nI i < h k2 2) = 0 then 0 else h (k2 + 1) (ix (nI i)) : Int32) = h (k2 + 1) i := fun i hi => by
    rw [if_neg (fun z => b2i_0.mp z (by rw [e2]; exact (is_in (by omega)).mpr (vp_in_nI hi (by omega)))), ixn (by omega)]
  have loop : ∀ u k, k + u = m → allB (agW g pk tk pr) k = true → td_J G (d + 2) mX8_agrees (eR (b2i (allB (agW g pk tk pr) m = true)) h) 3 [(0, .ref 43), (1, .int (nI pr)), (2, .ref k2), (3, .int (nI fr)), (4, .int (nI m)), (5, .int (nI (fr + 2 * k)))] [] h := by
    intro u
    induction u with
    | zero =>
      intro k hk ha
      have : k = m := by omega
      subst this
      refine gX8_agrees_3 hk2 ?_
      rw [lim]
      exact ⟨fun _ => ⟨by rw [show b2i (allB (agW g pk tk pr) k = true) = 1 from b2i_1.mpr ha], rfl⟩, fun y => absurd (nle_of y) (by omega)⟩
    | succ u ih =>
      intro k hk ha
      obtain ⟨t1, t2, t3, t4⟩ := hT k (by omega)
      have bad : ¬ agW g pk tk pr k = true → (some (Value.int 0) = some (.int (b2i (allB (agW g pk tk pr) m = true))) ∧ h = h) := fun z => by
        refine ⟨?_, rfl⟩
        rw [show b2i (allB (agW g pk tk pr) m = true) = 0 from b2i_0.mpr (fun y => z (allB_iff.mp y k (by omega)))]
      have ei : nI pr * 12 + nI (pk k) = nI (pr * 12 + pk k) := by rw [show (12 : Int32) = nI 12 from rfl, pk_mul, nI_add]
      have e1 : nI (fr + 2 * k) + 1 = nI (fr + 2 * k + 1) := nI_1 _
      have in12 : ¬ b2i (0 ≤ nI (pk k) ∧ nI (pk k) < 12) = 0 := fun z => b2i_0.mp z ((is_in (n := 12) (by decide)).mpr (vp_in_nI (by omega) (by decide)))
      have hend := end_le (c := cfgE g pr) hc.n (p := pk k) (by rw [cfgE_o g pr 1 0 (by decide)]; exact t2)
      refine gX8_agrees_3 hk2 ?_
      rw [lim, e1, get (fr + 2 * k) (by omega), get (fr + 2 * k + 1) (by omega), t1, t3, ei, ixn (by omega), hE pr hpr (pk k) t2]
      refine ⟨fun y => absurd (le_of y) (by omega), fun _ => ⟨⟨n, hn, e2⟩, fun y => absurd y in12, fun _ => ⟨vp_in_nI (by omega) (by decide), fun y => ?_, fun y => bad (fun z => ?_)⟩⟩⟩
      · have y2 : sRun (cfgE g pr) 120 3 (pk k) = tk k := eq_of y
        refine td_to (ih (k + 1) (by omega) ?_) ?_ rfl rfl
        · unfold allB
          rw [ha]
          unfold agW
          simp [y2]
        · rw [show nI (fr + 2 * k) + 2 = nI (fr + 2 * (k + 1)) from by rw [show (2 : Int32) = nI 2 from rfl, nI_add]; congr 1]
      · unfold agW at z
        simp at z
        exact y (by rw [z])
  exact loop m 0 (by omega) rfl
set_option maxRecDepth 20000 in
set_option maxHeartbeats 4000000 in
theorem gX8_countAgreeing_0 {G : td_G} {d : Nat} {Post : td_P} {k1 : Nat} {x2 x3 : Int32} {h : td_H} (hk1 : td_kd k1 = 6) (K : td_J G (d + 3) mX8_countAgreeing Post 6 [(0, .ref 43), (1, .ref k1), (2, .int x2), (3, .int x3), (4, .int 0), (5, .int 0)] [] h) : td_J G (d + 3) mX8_countAgreeing Post 0 [(0, .ref 43), (1, .ref k1), (2, .int x2), (3, .int x3)] [] h := by
  refine td_iconst (v := 0) dX8_countAgreeing_0 (by decide) ?_
  refine td_istore (lv2 := [(0, .ref 43), (1, .ref k1), (2, .int x2), (3, .int x3), (4, .int 0)]) dX8_countAgreeing_1 (by decide) rfl ?_
  refine td_iconst (v := 0) dX8_countAgreeing_3 (by decide) ?_
  refine td_istore (lv2 := [(0, .ref 43), (1, .ref k1), (2, .int x2), (3, .int x3), (4, .int 0), (5, .int 0)]) dX8_countAgreeing_4 (by decide) rfl ?_
  exact K
set_option maxRecDepth 20000 in
set_option maxHeartbeats 4000000 in
theorem gX8_countAgreeing_6 {G : td_G} {d : Nat} {Post : td_P} {fr m pr : Nat} {pk tk : Nat → Nat} {c : nH} {k1 : Nat} {x2 x3 x4 x5 : Int32} {h : td_H} (hk1 : td_kd k1 = 6) (K : (189 ≤ x5 → (Post (some (.int x4)) h)) ∧ (¬ 189 ≤ x5 → (wfC c ∧ x5 = nI pr ∧ x2 = nI fr ∧ x3 = nI m ∧ pr < 189 ∧ enI c 189 h ∧ toI c (k1) fr m pk tk h ∧ (td_J G (d + 3) mX8_countAgreeing Post 6 [(0, .ref 43), (1, .ref k1), (2, .int x2), (3, .int x3), (4, .int (if (b2i (allB (agW c pk tk pr) m = true)) = 0 then x4 else (x4 + 1) : Int32)), (5, .int (x5 + 1))] [] (if (b2i (allB (agW c pk tk pr) m = true)) = 0 then h else (if x4 = 0 then (hu h 43 10 x5) else h : td_H) : td_H))))) : td_J G (d + 3) mX8_countAgreeing Post 6 [(0, .ref 43), (1, .ref k1), (2, .int x2), (3, .int x3), (4, .int x4), (5, .int x5)] [] h := by
  refine td_iload 5 dX8_countAgreeing_6 rfl ?_
  refine td_sipush (v := 189) dX8_countAgreeing_8 (by decide) ?_
  obtain ⟨Kt, Kf⟩ := K
  refine td_icmp_ge (tgt := 46) dX8_countAgreeing_11 (by decide) (fun q11 => ?_) (fun q11 => ?_)
  · have K := Kt q11
    refine td_iload 4 dX8_countAgreeing_46 rfl ?_
    exact td_ireturn rfl dX8_countAgreeing_48 K
  · have K := Kf q11
    refine td_aload_n 0 dX8_countAgreeing_14 rfl ?_
    refine td_iload 5 dX8_countAgreeing_15 rfl ?_
    refine td_aload_n 1 dX8_countAgreeing_17 rfl ?_
    refine td_iload_n 2 dX8_countAgreeing_18 rfl ?_
    refine td_iload_n 3 dX8_countAgreeing_19 rfl ?_
    obtain ⟨e20_0, K⟩ := K
    obtain ⟨e20_1, K⟩ := K
    obtain ⟨e20_2, K⟩ := K
    obtain ⟨e20_3, K⟩ := K
    obtain ⟨e20_4, K⟩ := K
    obtain ⟨e20_5, K⟩ := K
    obtain ⟨e20_6, K⟩ := K
    refine cl_X8_114 rfl kp_43 dX8_countAgreeing_20 (Nat.le_of_ble_eq_true rfl) (c_R_agrees hk1 pk tk fr m pr x5 x2 x3 e20_0 e20_1 e20_2 e20_3 e20_4 e20_5 e20_6) (eR_k ?_)
    refine td_eqs (st2 := [.int (b2i (allB (agW c pk tk pr) m = true))]) rfl ?_
    have KJ40 : td_J G (d + 3) mX8_countAgreeing Post 40 [(0, .ref 43), (1, .ref k1), (2, .int x2), (3, .int x3), (4, .int (if (b2i (allB (agW c pk tk pr) m = true)) = 0 then x4 else (x4 + 1) : Int32)), (5, .int x5)] [] (if (b2i (allB (agW c pk tk pr) m = true)) = 0 then h else (if x4 = 0 then (hu h 43 10 x5) else h : td_H) : td_H) := by
      refine td_iinc 5 (v := x5 + 1) (lv2 := [(0, .ref 43), (1, .ref k1), (2, .int x2), (3, .int x3), (4, .int (if (b2i (allB (agW c pk tk pr) m = true)) = 0 then x4 else (x4 + 1) : Int32)), (5, .int (x5 + 1))]) dX8_countAgreeing_40 rfl (congrArg (x5 + ·) (by decide)) (by decide) rfl ?_
      refine td_goto (tgt := 6) dX8_countAgreeing_43 (by decide) ?_
      exact K
    refine td_if_eq (tgt := 40) dX8_countAgreeing_23 (by decide) (fun q23 => ?_) (fun q23 => ?_)
    · skip
      exact td_to KJ40 (by rw [show (if (b2i (allB (agW c pk tk pr) m = true)) = 0 then x4 else (x4 + 1) : Int32) = _ from if_pos q23]) rfl (by rw [show (if (b2i (allB (agW c pk tk pr) m = true)) = 0 then h else (if x4 = 0 then (hu h 43 10 x5) else h : td_H) : td_H) = _ from if_pos q23])
    · skip
      refine td_iload 4 dX8_countAgreeing_26 rfl ?_
      have KJ37 : td_J G (d + 3) mX8_countAgreeing Post 37 [(0, .ref 43), (1, .ref k1), (2, .int x2), (3, .int x3), (4, .int x4), (5, .int x5)] [] (if x4 = 0 then (hu h 43 10 x5) else h : td_H) := by
        refine td_iinc 4 (v := x4 + 1) (lv2 := [(0, .ref 43), (1, .ref k1), (2, .int x2), (3, .int x3), (4, .int (x4 + 1)), (5, .int x5)]) dX8_countAgreeing_37 rfl (congrArg (x4 + ·) (by decide)) (by decide) rfl ?_
        exact td_to KJ40 (by rw [show (if (b2i (allB (agW c pk tk pr) m = true)) = 0 then x4 else (x4 + 1) : Int32) = _ from if_neg q23]) rfl (by rw [show (if (b2i (allB (agW c pk tk pr) m = true)) = 0 then h else (if x4 = 0 then (hu h 43 10 x5) else h : td_H) : td_H) = _ from if_neg q23])
      refine td_if_ne (tgt := 37) dX8_countAgreeing_28 (by decide) (fun q28 => ?_) (fun q28 => ?_)
      · skip
        exact td_to KJ37 rfl rfl (by rw [show (if x4 = 0 then (hu h 43 10 x5) else h : td_H) = _ from if_neg q28])
      · skip
        refine td_aload_n 0 dX8_countAgreeing_31 rfl ?_
        refine td_iload 5 dX8_countAgreeing_32 rfl ?_
        refine pf_X8_118 rfl kp_43 dX8_countAgreeing_34 ?_
        exact td_to KJ37 rfl rfl (by rw [show (if x4 = 0 then (hu h 43 10 x5) else h : td_H) = _ from if_pos q28])
theorem c_R_count {G : td_G} {d : Nat} {h : td_H} {g : nH} {k2 : Nat} (hk2 : td_kd k2 = 6) (pk tk : Nat → Nat) (fr m : Nat) (x3 x4 : Int32) (hwf : wfC g) (h3 : x3 = nI fr) (h4 : x4 = nI m) (hE : enI g 189 h) (hT : toI g k2 fr m pk tk h) : td_C G (d + 3) mX8_countAgreeing [.ref 43, .ref k2, .int x3, .int x4] h (fun r h' => r = some (.int (nI (fb_ct (fun pr => allB (agW g pk tk pr) m) 189))) ∧ (∀ a b, ¬ (a = 43 ∧ b = 10) → h' a b = h a b) ∧ (0 < fb_ct (fun pr => allB (agW g pk tk pr) m) 189 → h' 43 10 = nI (fa_first (fun pr => allB (agW g pk tk pr) m) 189) ∧ fa_first (fun pr => allB (agW g pk tk pr) m) 189 < 189)) := by
  subst h3 h4
  refine td_entry rfl (Nat.le_of_ble_eq_true rfl) rfl (gX8_countAgreeing_0 hk2 ?_)
  have kd6 : k2 ≠ 43 ∧ k2 + 1 ≠ 43 := (by decide +kernel : ∀ k, k < 107 → td_kd k = 6 → k ≠ 43 ∧ k + 1 ≠ 43) k2 (td_kd_lt hk2 (by decide)) hk2
  generalize hp : (fun pr => allB (agW g pk tk pr) m) = P
  have hP : ∀ pr, allB (agW g pk tk pr) m = P pr := fun pr => by rw [← hp]
  have frs : ∀ K, fb_ct P K = 0 → fa_first P K = K := fun K hz => by
    have z := fb_ct_zero.mp hz
    have := fa_first_le P K
    rcases Nat.lt_or_ge (fa_first P K) K with y | y
    · have := fa_first_yes P K y
      rw [z _ y] at this
      cases this
    · omega
  have frp : ∀ K, 0 < fb_ct P K → fa_first P K < K := fun K hz => by
    obtain ⟨i, hi, pi⟩ := fb_ct_pos.mp hz
    rcases Nat.lt_or_ge (fa_first P K) K with y | y
    · exact y
    · have := fa_first_no P K i (by omega)
      rw [this] at pi; cases pi
  refine td_forH 189 (fun k => [(0, .ref 43), (1, .ref k2), (2, .int (nI fr)), (3, .int (nI m)), (4, .int (nI (fb_ct P k))), (5, .int (nI k))]) (fun k h1 => (∀ a b, ¬ (a = 43 ∧ b = 10) → h1 a b = h a b) ∧ (0 < fb_ct P k → h1 43 10 = nI (fa_first P k))) rfl ⟨fun _ _ _ => rfl, fun z => absurd z (by show ¬ 0 < 0; decide)⟩ (fun k hk h1 hI ih => ?_) (fun h1 hI => ?_)
  · obtain ⟨hF, hA⟩ := hI
    have ct := fb_ct_le P k
    have E1 : enI g 189 h1 := fun pr hpr p hp2 => by rw [hF _ _ (by omega)]; exact hE pr hpr p hp2
    have T1 : toI g k2 fr m pk tk h1 := by
      obtain ⟨⟨n, a1, a2, a3⟩, b⟩ := hT
      refine ⟨⟨n, a1, by rw [hF _ _ (fun z => kd6.1 z.1)]; exact a2, a3⟩, fun i hi => ?_⟩
      rw [hF _ _ (fun z => kd6.2 z.1), hF _ _ (fun z => kd6.2 z.1)]
      exact b i hi
    refine gX8_countAgreeing_6 (c := g) (pk := pk) (tk := tk) (fr := fr) (m := m) (pr := k) hk2 ⟨fun y => absurd (le_of (a := 189) y) (by omega), fun _ => ⟨hwf, rfl, rfl, rfl, hk, E1, T1, ?_⟩⟩
    rw [hP k]
    have sc := fb_ct_succ P k
    have fs : fa_first P (k + 1) = if fa_first P k < k then fa_first P k else if P k then k else k + 1 := rfl
    by_cases y : P k = true
    · have b1 : ¬ b2i (P k = true) = 0 := fun z => b2i_0.mp z y
      rw [if_neg b1, if_neg b1]
      rw [if_pos y] at sc
      by_cases z : fb_ct P k = 0
      · rw [if_pos (show nI (fb_ct P k) = 0 by rw [z]; rfl)]
        refine td_to (ih (hu h1 43 10 (nI k)) ⟨fun a b w => by rw [hu_app, if_neg w]; exact hF a b w, fun _ => ?_⟩) (by rw [nI_1, nI_1, sc]) rfl rfl
        rw [hu_app, if_pos ⟨rfl, rfl⟩, fs, frs k z, if_neg (by omega), if_pos y]
      · rw [if_neg (show ¬ nI (fb_ct P k) = 0 from fun w => z (eq_of (b := 0) w))]
        refine td_to (ih h1 ⟨hF, fun _ => ?_⟩) (by rw [nI_1, nI_1, sc]) rfl rfl
        rw [fs, if_pos (frp k (by omega))]
        exact hA (by omega)
    · have b0 : b2i (P k = true) = 0 := b2i_0.mpr y
      rw [if_pos b0, if_pos b0]
      have sc : fb_ct P (k + 1) = fb_ct P k := by rw [sc, if_neg y]; rfl
      refine td_to (ih h1 ⟨hF, fun z => ?_⟩) (by rw [nI_1, sc]) rfl rfl
      rw [sc] at z
      rw [fs, if_pos (frp k z)]
      exact hA z
  · obtain ⟨hF, hA⟩ := hI
    exact gX8_countAgreeing_6 (c := g) (pk := pk) (tk := tk) (fr := fr) (m := m) (pr := 0) hk2 ⟨fun _ => ⟨rfl, hF, fun z => ⟨hA z, frp 189 z⟩⟩, fun y => absurd (by decide) y⟩
set_option maxRecDepth 20000 in
set_option maxHeartbeats 4000000 in
theorem gX8_firstMotor_0 {G : td_G} {d : Nat} {Post : td_P} {h : td_H} (K : Post (some (.int ((h 43 10) / 9))) h) : td_J G d mX8_firstMotor Post 0 [(0, .ref 43)] [] h := by
  refine td_aload_n 0 dX8_firstMotor_0 rfl ?_
  refine gf_X8_118 rfl kp_43 dX8_firstMotor_1 ?_
  refine td_bipush (v := 9) dX8_firstMotor_4 (by decide) ?_
  refine td_idiv dX8_firstMotor_6 (by decide) ?_
  exact td_ireturn rfl dX8_firstMotor_7 K
set_option maxRecDepth 20000 in
set_option maxHeartbeats 4000000 in
theorem gX8_firstDrag_0 {G : td_G} {d : Nat} {Post : td_P} {h : td_H} (K : Post (some (.int (1 + (jrem (h 43 10) 9)))) h) : td_J G d mX8_firstDrag Post 0 [(0, .ref 43)] [] h := by
  refine td_iconst (v := 1) dX8_firstDrag_0 (by decide) ?_
  refine td_aload_n 0 dX8_firstDrag_1 rfl ?_
  refine gf_X8_118 rfl kp_43 dX8_firstDrag_2 ?_
  refine td_bipush (v := 9) dX8_firstDrag_5 (by decide) ?_
  refine td_irem dX8_firstDrag_7 (by decide) ?_
  refine td_iadd dX8_firstDrag_8 ?_
  exact td_ireturn rfl dX8_firstDrag_9 K
theorem c_R_fMotor {G : td_G} {d : Nat} {h : td_H} : td_C G d mX8_firstMotor [.ref 43] h (eR (h 43 10 / 9) h) := td_entry rfl (Nat.le_of_ble_eq_true rfl) rfl (gX8_firstMotor_0 ⟨rfl, rfl⟩)
theorem c_R_fDrag {G : td_G} {d : Nat} {h : td_H} : td_C G d mX8_firstDrag [.ref 43] h (eR (1 + jrem (h 43 10) 9) h) := td_entry rfl (Nat.le_of_ble_eq_true rfl) rfl (gX8_firstDrag_0 ⟨rfl, rfl⟩)
set_option maxRecDepth 20000 in
set_option maxHeartbeats 4000000 in
theorem gX8_forget_0 {G : td_G} {d : Nat} {Post : td_P} {h : td_H} (K : Post none (hu (hu (hu (hu h 43 7 0) 43 8 0) 43 9 0) 69 4 0)) : td_J G d mX8_forget Post 0 [(0, .ref 43)] [] h := by
  refine td_aload_n 0 dX8_forget_0 rfl ?_
  refine td_iconst (v := 0) dX8_forget_1 (by decide) ?_
  refine pf_X8_45 rfl kp_43 dX8_forget_2 ?_
  refine td_aload_n 0 dX8_forget_5 rfl ?_
  refine td_iconst (v := 0) dX8_forget_6 (by decide) ?_
  refine pf_X8_49 rfl kp_43 (by decide) dX8_forget_7 ?_
  refine td_aload_n 0 dX8_forget_10 rfl ?_
  refine td_iconst (v := 0) dX8_forget_11 (by decide) ?_
  refine pf_X8_53 rfl kp_43 (by decide) dX8_forget_12 ?_
  refine td_aload_n 0 dX8_forget_15 rfl ?_
  refine gf_X8_28 rfl kp_43 dX8_forget_16 ?_
  refine td_iconst (v := 0) dX8_forget_19 (by decide) ?_
  refine pf_X8_56 rfl kp_69 dX8_forget_20 ?_
  exact td_return rfl dX8_forget_23 K
theorem c_R_forget {G : td_G} {d : Nat} {h : td_H} : td_C G d mX8_forget [.ref 43] h (eV (hu (hu (hu (hu h 43 7 0) 43 8 0) 43 9 0) 69 4 0)) := td_entry rfl (Nat.le_of_ble_eq_true rfl) rfl (gX8_forget_0 ⟨rfl, rfl⟩)
set_option maxRecDepth 20000 in
set_option maxHeartbeats 4000000 in
theorem gX9_forget_0 {G : td_G} {d : Nat} {Post : td_P} {h : td_H} (K : Post none (hu (hu (hu (hu (hu h 0 8 0) 43 7 0) 43 8 0) 43 9 0) 69 4 0)) : td_J G (d + 1) mX9_forget Post 0 [(0, .ref 0)] [] h := by
  refine td_aload_n 0 dX9_forget_0 rfl ?_
  refine td_iconst (v := 0) dX9_forget_1 (by decide) ?_
  refine pf_X9_293 rfl kp_0 (by decide) dX9_forget_2 ?_
  refine td_aload_n 0 dX9_forget_5 rfl ?_
  refine gf_X9_49 rfl kp_0 dX9_forget_6 ?_
  refine cl_X9_296 rfl kp_43 dX9_forget_9 (Nat.le_of_ble_eq_true rfl) (c_R_forget) (eV_k ?_)
  refine td_eqs (st2 := []) rfl ?_
  exact td_return rfl dX9_forget_12 K
def fgH (h : td_H) : td_H := hu (hu (hu (hu (hu h 0 8 0) 43 7 0) 43 8 0) 43 9 0) 69 4 0
theorem c_X_forget {G : td_G} {d : Nat} {h : td_H} : td_C G (d + 1) mX9_forget [.ref 0] h (eV (fgH h)) := td_entry rfl (Nat.le_of_ble_eq_true rfl) rfl (gX9_forget_0 ⟨rfl, rfl⟩)
