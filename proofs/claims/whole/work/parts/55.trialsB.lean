/-! Door: trials: doors -/
set_option maxRecDepth 20000 in
set_option maxHeartbeats 4000000 in
theorem gX8_leavesOf_0 {G : td_G} {d : Nat} {Post : td_P} {x0 : Int32} {h : td_H} (K : Post (some (.int (3 + (x0 / 9)))) h) : td_J G d mX8_leavesOf Post 0 [(0, .int x0)] [] h := by
  refine td_iconst (v := 3) dX8_leavesOf_0 (by decide) ?_
  refine td_iload_n 0 dX8_leavesOf_1 rfl ?_
  refine td_bipush (v := 9) dX8_leavesOf_2 (by decide) ?_
  refine td_idiv dX8_leavesOf_4 (by decide) ?_
  refine td_iadd dX8_leavesOf_5 ?_
  exact td_ireturn rfl dX8_leavesOf_6 K
set_option maxRecDepth 20000 in
set_option maxHeartbeats 4000000 in
theorem gX8_openingOf_0 {G : td_G} {d : Nat} {Post : td_P} {x0 : Int32} {h : td_H} (K : Post (some (.int (1 + (jrem (x0 / 3) 3)))) h) : td_J G d mX8_openingOf Post 0 [(0, .int x0)] [] h := by
  refine td_iconst (v := 1) dX8_openingOf_0 (by decide) ?_
  refine td_iload_n 0 dX8_openingOf_1 rfl ?_
  refine td_iconst (v := 3) dX8_openingOf_2 (by decide) ?_
  refine td_idiv dX8_openingOf_3 (by decide) ?_
  refine td_iconst (v := 3) dX8_openingOf_4 (by decide) ?_
  refine td_irem dX8_openingOf_5 (by decide) ?_
  refine td_iadd dX8_openingOf_6 ?_
  exact td_ireturn rfl dX8_openingOf_7 K
set_option maxRecDepth 20000 in
set_option maxHeartbeats 4000000 in
theorem gX8_governorOf_0 {G : td_G} {d : Nat} {Post : td_P} {x0 : Int32} {h : td_H} (K : Post (some (.int (1 + (jrem x0 3)))) h) : td_J G d mX8_governorOf Post 0 [(0, .int x0)] [] h := by
  refine td_iconst (v := 1) dX8_governorOf_0 (by decide) ?_
  refine td_iload_n 0 dX8_governorOf_1 rfl ?_
  refine td_iconst (v := 3) dX8_governorOf_2 (by decide) ?_
  refine td_irem dX8_governorOf_3 (by decide) ?_
  refine td_iadd dX8_governorOf_4 ?_
  exact td_ireturn rfl dX8_governorOf_5 K
theorem c_R_leaves {G : td_G} {d : Nat} {h : td_H} (x : Int32) : td_C G d mX8_leavesOf [.int x] h (eR (3 + x / 9) h) := td_entry rfl (Nat.le_of_ble_eq_true rfl) rfl (gX8_leavesOf_0 ⟨rfl, rfl⟩)
theorem c_R_opening {G : td_G} {d : Nat} {h : td_H} (x : Int32) : td_C G d mX8_openingOf [.int x] h (eR (1 + jrem (x / 3) 3) h) := td_entry rfl (Nat.le_of_ble_eq_true rfl) rfl (gX8_openingOf_0 ⟨rfl, rfl⟩)
theorem c_R_governor {G : td_G} {d : Nat} {h : td_H} (x : Int32) : td_C G d mX8_governorOf [.int x] h (eR (1 + jrem x 3) h) := td_entry rfl (Nat.le_of_ble_eq_true rfl) rfl (gX8_governorOf_0 ⟨rfl, rfl⟩)
theorem door_n {k : Nat} (h : k < 18) : 3 + nI k / 9 = nI (3 + k / 9) ∧ 1 + jrem (nI k / 3) 3 = nI (1 + k / 3 % 3) ∧ 1 + jrem (nI k) 3 = nI (1 + k % 3) := (by decide +kernel : ∀ k, k < 18 → 3 + nI k / 9 = nI (3 + k / 9) ∧ 1 + jrem (nI k / 3) 3 = nI (1 + k / 3 % 3) ∧ 1 + jrem (nI k) 3 = nI (1 + k % 3)) k h
def cfgD (g : nH) (k : Nat) : nH := fun a b => if a = 0 ∧ b = 0 then 3 + k / 9 else if a = 0 ∧ b = 1 then 1 + k / 3 % 3 else if a = 0 ∧ b = 5 then 1 + k % 3 else g a b
theorem cfgD_o (g : nH) (k a b : Nat) (h : a ≠ 0) : cfgD g k a b = g a b := by unfold cfgD; rw [if_neg (fun z => h z.1), if_neg (fun z => h z.1), if_neg (fun z => h z.1)]
theorem cfgD_s {g : nH} (x : wfC g) {k : Nat} (hk : k < 18) : wfS (cfgD g k) := by
  obtain ⟨b0, b1, b2, b3, b4, b5, b6, b7, b8⟩ := x.S
  have e : ∀ i, i ≠ 0 → i ≠ 1 → i ≠ 5 → cfgD g k 0 i = g 0 i := fun i n0 n1 n5 => by unfold cfgD; rw [if_neg (fun z => n0 z.2), if_neg (fun z => n1 z.2), if_neg (fun z => n5 z.2)]
  have e0 : cfgD g k 0 0 = 3 + k / 9 := rfl
  have e1 : cfgD g k 0 1 = 1 + k / 3 % 3 := rfl
  have e5 : cfgD g k 0 5 = 1 + k % 3 := rfl
  unfold wfS
  rw [e0, e1, e5, e 2 (by decide) (by decide) (by decide), e 3 (by decide) (by decide) (by decide), e 4 (by decide) (by decide) (by decide), e 6 (by decide) (by decide) (by decide), e 7 (by decide) (by decide) (by decide), e 8 (by decide) (by decide) (by decide)]
  exact ⟨by omega, by omega, b2, b3, b4, by omega, b6, b7, b8⟩
def lossE (c : nH) : Nat := sRun c 120 8 3
set_option maxRecDepth 20000 in
set_option maxHeartbeats 4000000 in
theorem gX8_findDoors_0 {G : td_G} {d : Nat} {Post : td_P} {k1 : Nat} {h : td_H} (hk1 : td_kd k1 = 5) (K : ((h 43 8) = 0 → ((44 + 4 < k1 ∨ k1 + 4 < 44) ∧ (∀ h13 : td_H, (FrQ (44) h h13 ∧ ∀ c, dP c (k1) h → dP c (44) h13) → (td_J G (d + 6) mX8_findDoors Post 18 [(0, .ref 43), (1, .ref k1), (2, .int 0)] [] h13)))) ∧ (¬ (h 43 8) = 0 → (Post none h))) : td_J G (d + 6) mX8_findDoors Post 0 [(0, .ref 43), (1, .ref k1)] [] h := by
  refine td_aload_n 0 dX8_findDoors_0 rfl ?_
  refine gf_X8_49 rfl kp_43 dX8_findDoors_1 ?_
  obtain ⟨Kt, Kf⟩ := K
  refine td_if_eq (tgt := 8) dX8_findDoors_4 (by decide) (fun q4 => ?_) (fun q4 => ?_)
  · have K := Kt q4
    refine td_aload_n 0 dX8_findDoors_8 rfl ?_
    refine gf_X8_12 rfl kp_43 dX8_findDoors_9 ?_
    refine td_aload_n 1 dX8_findDoors_12 rfl ?_
    obtain ⟨e13_0, K⟩ := K
    refine cl_X8_59 rfl kp_44 dX8_findDoors_13 (Nat.le_of_ble_eq_true rfl) (c_P_become kp_44 hk1 e13_0) ?_
    rintro _ h13 ⟨rfl, f13⟩
    have K := K h13 f13
    refine td_eqs (st2 := []) rfl ?_
    refine td_iconst (v := 0) dX8_findDoors_16 (by decide) ?_
    refine td_istore_n (lv2 := [(0, .ref 43), (1, .ref k1), (2, .int 0)]) dX8_findDoors_17 (by decide) rfl ?_
    exact K
  · have K := Kf q4
    exact td_return rfl dX8_findDoors_7 K
set_option maxRecDepth 20000 in
set_option maxHeartbeats 4000000 in
theorem gX8_findDoors_18 {G : td_G} {d : Nat} {Post : td_P} {n q : Nat} {f : Nat → Nat} {c : nH} {k1 : Nat} {x2 : Int32} {h : td_H} (hk1 : td_kd k1 = 5) (K : (18 ≤ x2 → (Post none (hu h 43 8 1))) ∧ (¬ 18 ≤ x2 → (∀ H49 : td_H, H49 = hu (hu h 45 0 (3 + (x2 / 9))) 45 1 (1 + (jrem (x2 / 3) 3)) → (∀ H75 : td_H, H75 = (hu H49 45 5 (1 + (jrem x2 3))) → (44 + 4 < 49 ∧ dP c (44) H75 ∧ dKn (49 + 1) H75 ∧ ((jshl 1 ((hu H49 45 5 (1 + (jrem x2 3))) 44 4)) - 1) = ms (comM c) ∧ (∀ h78 : td_H, (FrC (49) H75 h78 ∧ ∃ Q, dQ c Q (49) (44) h78 ∧ dV c s0 (49) h78) → (dQE c (49) q h78 ∧ dV c s0 (49) h78 ∧ vp_in 119 121 ∧ (∀ h88 : td_H, (FrD (49) h78 h88 ∧ dRun c (min (ix 119 + 1) 120) 0 (49) h88) → ((h88 44 4) = nI n ∧ n ≤ 12 ∧ (∀ p, p < n → h88 (56 + 3) p = nI (f p) ∧ f p ≤ 120) ∧ (vp_in x2 18 ∧ (∀ H113 : td_H, H113 = hu h88 74 (ix x2) (nI (mxN f n)) → (∀ H129 : td_H, H129 = hu H113 75 (ix x2) (H113 50 11) → (td_J G (d + 6) mX8_findDoors Post 18 [(0, .ref 43), (1, .ref k1), (2, .int (x2 + 1))] [] H129))))))))))))) : td_J G (d + 6) mX8_findDoors Post 18 [(0, .ref 43), (1, .ref k1), (2, .int x2)] [] h := by
  refine td_iload_n 2 dX8_findDoors_18 rfl ?_
  refine td_bipush (v := 18) dX8_findDoors_19 (by decide) ?_
  obtain ⟨Kt, Kf⟩ := K
  refine td_icmp_ge (tgt := 136) dX8_findDoors_21 (by decide) (fun q21 => ?_) (fun q21 => ?_)
  · have K := Kt q21
    refine td_aload_n 0 dX8_findDoors_136 rfl ?_
    refine td_iconst (v := 1) dX8_findDoors_137 (by decide) ?_
    refine pf_X8_49 rfl kp_43 (by decide) dX8_findDoors_138 ?_
    exact td_return rfl dX8_findDoors_141 K
  · have K := Kf q21
    refine td_aload_n 0 dX8_findDoors_24 rfl ?_
    refine gf_X8_12 rfl kp_43 dX8_findDoors_25 ?_
    refine gf_X8_63 rfl kp_44 dX8_findDoors_28 ?_
    refine td_iconst (v := 0) dX8_findDoors_31 (by decide) ?_
    refine td_iload_n 2 dX8_findDoors_32 rfl ?_
    refine cl_X8_95 rfl dX8_findDoors_33 (Nat.le_of_ble_eq_true rfl) (c_R_leaves x2) (eR_k ?_)
    refine td_eqs (st2 := [.int (3 + (x2 / 9)), .int 0, .ref 45]) rfl ?_
    refine td_iastc (j := 0) kp_45 (by decide) (by unfold vp_in; decide) (by decide) dX8_findDoors_36 ?_
    refine td_aload_n 0 dX8_findDoors_37 rfl ?_
    refine gf_X8_12 rfl kp_43 dX8_findDoors_38 ?_
    refine gf_X8_63 rfl kp_44 dX8_findDoors_41 ?_
    refine td_iconst (v := 1) dX8_findDoors_44 (by decide) ?_
    refine td_iload_n 2 dX8_findDoors_45 rfl ?_
    refine cl_X8_98 rfl dX8_findDoors_46 (Nat.le_of_ble_eq_true rfl) (c_R_opening x2) (eR_k ?_)
    refine td_eqs (st2 := [.int (1 + (jrem (x2 / 3) 3)), .int 1, .ref 45]) rfl ?_
    refine td_iastc (j := 1) kp_45 (by decide) (by unfold vp_in; decide) (by decide) dX8_findDoors_49 ?_
    obtain ⟨H49, E49⟩ : ∃ z : td_H, z = hu (hu h 45 0 (3 + (x2 / 9))) 45 1 (1 + (jrem (x2 / 3) 3)) := ⟨_, rfl⟩
    have K := K H49 E49
    refine td_eqh E49 ?_
    refine td_aload_n 0 dX8_findDoors_50 rfl ?_
    refine gf_X8_12 rfl kp_43 dX8_findDoors_51 ?_
    refine gf_X8_63 rfl kp_44 dX8_findDoors_54 ?_
    refine td_iconst (v := 5) dX8_findDoors_57 (by decide) ?_
    refine td_iload_n 2 dX8_findDoors_58 rfl ?_
    refine cl_X8_101 rfl dX8_findDoors_59 (Nat.le_of_ble_eq_true rfl) (c_R_governor x2) (eR_k ?_)
    refine td_eqs (st2 := [.int (1 + (jrem x2 3)), .int 5, .ref 45]) rfl ?_
    refine td_iastc (j := 5) kp_45 (by decide) (by unfold vp_in; decide) (by decide) dX8_findDoors_62 ?_
    refine td_aload_n 0 dX8_findDoors_63 rfl ?_
    refine gf_X8_21 rfl kp_43 dX8_findDoors_64 ?_
    refine td_aload_n 0 dX8_findDoors_67 rfl ?_
    refine gf_X8_12 rfl kp_43 dX8_findDoors_68 ?_
    refine td_aload_n 0 dX8_findDoors_71 rfl ?_
    refine gf_X8_12 rfl kp_43 dX8_findDoors_72 ?_
    refine cl_X8_66 rfl kp_44 dX8_findDoors_75 (Nat.le_of_ble_eq_true rfl) (c_P_everyone kp_44) (eR_k ?_)
    refine td_eqs (st2 := [.int ((jshl 1 ((hu H49 45 5 (1 + (jrem x2 3))) 44 4)) - 1), .ref 44, .ref 49]) rfl ?_
    obtain ⟨H75, E75⟩ : ∃ z : td_H, z = (hu H49 45 5 (1 + (jrem x2 3))) := ⟨_, rfl⟩
    have K := K H75 E75
    refine td_eqh E75 ?_
    obtain ⟨e78_0, K⟩ := K
    obtain ⟨e78_1, K⟩ := K
    obtain ⟨e78_2, K⟩ := K
    obtain ⟨e78_3, K⟩ := K
    refine cl_X8_70 rfl kp_49 dX8_findDoors_78 (Nat.le_of_ble_eq_true rfl) (c_C_begin kp_49 kp_44 ((jshl 1 ((hu H49 45 5 (1 + (jrem x2 3))) 44 4)) - 1) e78_0 e78_1 e78_2 e78_3) ?_
    rintro _ h78 ⟨rfl, f78⟩
    have K := K h78 f78
    refine td_eqs (st2 := []) rfl ?_
    refine td_aload_n 0 dX8_findDoors_81 rfl ?_
    refine gf_X8_21 rfl kp_43 dX8_findDoors_82 ?_
    refine td_bipush (v := 119) dX8_findDoors_85 (by decide) ?_
    refine td_iconst (v := 0) dX8_findDoors_87 (by decide) ?_
    obtain ⟨e88_0, K⟩ := K
    obtain ⟨e88_1, K⟩ := K
    obtain ⟨e88_2, K⟩ := K
    refine cl_X8_74 rfl kp_49 dX8_findDoors_88 (Nat.le_of_ble_eq_true rfl) (c_C_run' 119 0 e88_0 e88_1 e88_2) ?_
    rintro _ h88 ⟨rfl, f88⟩
    have K := K h88 f88
    refine td_eqs (st2 := []) rfl ?_
    refine td_aload_n 0 dX8_findDoors_91 rfl ?_
    refine gf_X8_36 rfl kp_43 dX8_findDoors_92 ?_
    refine td_iload_n 2 dX8_findDoors_95 rfl ?_
    refine td_aload_n 0 dX8_findDoors_96 rfl ?_
    refine gf_X8_21 rfl kp_43 dX8_findDoors_97 ?_
    refine gf_X8_78 rfl kp_49 dX8_findDoors_100 ?_
    refine td_aload_n 0 dX8_findDoors_103 rfl ?_
    refine gf_X8_12 rfl kp_43 dX8_findDoors_104 ?_
    refine gf_X8_82 rfl kp_44 dX8_findDoors_107 ?_
    obtain ⟨e110_0, K⟩ := K
    obtain ⟨e110_1, K⟩ := K
    obtain ⟨e110_2, K⟩ := K
    refine cl_X8_85 rfl kp_56 dX8_findDoors_110 (Nat.le_of_ble_eq_true rfl) (c_F_last kp_56 f n (h88 44 4) e110_0 e110_1 e110_2) (eR_k ?_)
    refine td_eqs (st2 := [.int (nI (mxN f n)), .int x2, .ref 74]) rfl ?_
    obtain ⟨e113, K⟩ := K
    refine td_iastc (j := (ix x2)) kp_74 (by decide) e113 rfl dX8_findDoors_113 ?_
    obtain ⟨H113, E113⟩ : ∃ z : td_H, z = hu h88 74 (ix x2) (nI (mxN f n)) := ⟨_, rfl⟩
    have K := K H113 E113
    refine td_eqh E113 ?_
    refine td_aload_n 0 dX8_findDoors_114 rfl ?_
    refine gf_X8_39 rfl kp_43 dX8_findDoors_115 ?_
    refine td_iload_n 2 dX8_findDoors_118 rfl ?_
    refine td_aload_n 0 dX8_findDoors_119 rfl ?_
    refine gf_X8_21 rfl kp_43 dX8_findDoors_120 ?_
    refine gf_X8_104 rfl kp_49 dX8_findDoors_123 ?_
    refine gf_X8_108 rfl kp_50 dX8_findDoors_126 ?_
    refine td_iastc (j := (ix x2)) kp_75 (by decide) e113 rfl dX8_findDoors_129 ?_
    obtain ⟨H129, E129⟩ : ∃ z : td_H, z = hu H113 75 (ix x2) (H113 50 11) := ⟨_, rfl⟩
    have K := K H129 E129
    refine td_eqh E129 ?_
    refine td_iinc 2 (v := x2 + 1) (lv2 := [(0, .ref 43), (1, .ref k1), (2, .int (x2 + 1))]) dX8_findDoors_130 rfl (congrArg (x2 + ·) (by decide)) (by decide) rfl ?_
    refine td_goto (tgt := 18) dX8_findDoors_133 (by decide) ?_
    exact K
def doI (g : nH) (K : Nat) (h : td_H) : Prop := ∀ k, k < K → h 74 k = nI (lastE (cfgD g k)) ∧ h 75 k = nI (lossE (cfgD g k))
def FrM2 (h h' : td_H) : Prop := ∀ a b, ¬ ((a = 43 ∧ b = 8) ∨ (44 ≤ a ∧ a ≤ 63) ∨ a = 74 ∨ a = 75) → h' a b = h a b
theorem dKn.fr {D : Nat} {h h' : td_H} (x : dKn D h) (e : ∀ a b, D ≤ a → a ≤ D + 2 → h' a b = h a b) : dKn D h' := by
  rcases x with z | ⟨L, O, z⟩
  · left; rw [e _ _ (by omega) (by omega)]; exact z
  · right; exact ⟨L, O, z.fr (e _ _ (by omega) (by omega)) (e _ _ (by omega) (by omega)) (fun a b ha => e _ _ (by omega) (by omega))⟩
theorem c_R_doors {G : td_G} {d : Nat} {h : td_H} {g : nH} (hP : dP g 1 h) (h5 : 12 ≤ g 5 0) (hK : dKn 50 h) (hd : h 43 8 = 0 ∨ (h 43 8 = 1 ∧ doI g 18 h)) : td_C G (d + 6) mX8_findDoors [.ref 43, .ref 1] h (fun r h' => r = none ∧ FrM2 h h' ∧ dKn 50 h' ∧ h' 43 8 = 1 ∧ doI g 18 h') := by
  have hn := hP.1.n
  refine td_entry rfl (Nat.le_of_ble_eq_true rfl) rfl (gX8_findDoors_0 (k1 := 1) rfl ⟨fun _ => ⟨by omega, fun h13 hh => ?_⟩, fun y => ?_⟩)
  · have P13 := hh.2 g hP
    refine td_forH 18 (fun k => [(0, .ref 43), (1, .ref 1), (2, .int (nI k))]) (fun k h1 => FrM2 h h1 ∧ dKn 50 h1 ∧ doI g k h1 ∧ ∃ c', dP c' 44 h1 ∧ (∀ a b, 1 ≤ a → c' a b = g a b) ∧ ∀ i, i ≠ 0 → i ≠ 1 → i ≠ 5 → c' 0 i = g 0 i) rfl ⟨fun a b z => hh.1 _ _ (by omega), hK.fr (fun a b z1 z2 => hh.1 _ _ (by omega)), fun k hk => absurd hk (by omega), g, P13, fun _ _ _ => rfl, fun _ _ _ _ => rfl⟩ (fun k hk h1 hI ih => ?_) (fun h1 hI => ?_)
    · obtain ⟨hF, hK1, hD, c', hP', e1, e0⟩ := hI
      obtain ⟨v1, v2, v3⟩ := door_n hk
      have hc : wfC (cfgD g k) := hP.1.of (cfgD_s hP.1 hk) (fun a b z _ => cfgD_o g k a b (by omega))
      have n1 : cfgD g k 1 0 = g 1 0 := cfgD_o g k 1 0 (by decide)
      have g5 : 12 ≤ cfgD g k 5 0 := by rw [cfgD_o g k 5 0 (by decide)]; exact h5
      have ek : ix (nI k) = k := ixn (by omega)
      refine gX8_findDoors_18 (n := g 1 0) (q := 44) (f := fun p => sRun (cfgD g k) 120 3 p) (c := cfgD g k) rfl ⟨fun y => absurd (le_of (a := 18) y) (by omega), fun _ H49 E49 H75 E75 => ?_⟩
      rw [v1, v2] at E49
      rw [v3] at E75
      have o75 : ∀ a b, a ≠ 45 → H75 a b = h1 a b := fun a b z => by rw [E75, hu_app, if_neg (fun w => z w.1), E49, hu_app, if_neg (fun w => z w.1), hu_app, if_neg (fun w => z w.1)]
      have Pc : dP (cfgD g k) 44 H75 := by
        refine hP'.sets (cfgD_s hP.1 hk) (fun a b z _ => by rw [cfgD_o g k a b (by omega), e1 a b z]) (fun i hi => ?_) o75
        rw [E75, hu_app, E49, hu_app, hu_app]
        unfold cfgD
        by_cases i5 : i = 5
        · subst i5; simp
        · by_cases i1 : i = 1
          · subst i1; simp
          · by_cases i0 : i = 0
            · subst i0; simp
            · simp [i0, i1, i5]
              rw [← e0 i i0 i1 i5]
              exact hP'.2.1 i hi
      refine ⟨by decide, Pc, hK1.fr (fun a b z1 z2 => o75 a b (by omega)), ?_, fun h78 hb => ?_⟩
      · rw [v3, ← E75, Pc.2.2.1]
        exact com_all (c := cfgD g k) g5 hc.n
      · obtain ⟨hbF, Q, hQ, hV⟩ := hb
        refine ⟨⟨Q, hQ⟩, hV, by unfold vp_in; decide, fun h88 hr => ?_⟩
        rw [show min (ix 119 + 1) 120 = 120 by decide] at hr
        have ends := fun p hp => hr.2.ends (p := p) g5 hc.n hp
        have full := hr.2.full
        have P78 : dP (cfgD g k) 44 h78 := hbF.P (Or.inl (by decide)) Pc
        have P88 : dP (cfgD g k) 44 h88 := hr.1.P (by decide) P78
        have e44 : h88 44 4 = nI (g 1 0) := by rw [P88.2.2.1, n1]
        refine ⟨e44, hn, fun p hp => ⟨(ends p (by rw [n1]; exact hp)).1, end_le hc.n (by rw [n1]; exact hp)⟩, vp_in_nI hk (by decide), fun H113 E113 H129 E129 => ?_⟩
        have eL : mxN (fun p => sRun (cfgD g k) 120 3 p) (g 1 0) = lastE (cfgD g k) := by unfold lastE; rw [n1]
        rw [ek, eL] at E113
        have e11 : H113 50 11 = nI (lossE (cfgD g k)) := by rw [E113, hu_app, if_neg (by omega)]; exact full.2.2.1.2.2.2
        rw [ek, e11] at E129
        have o88 : ∀ a b, ¬ (44 ≤ a ∧ a ≤ 63) → h88 a b = h1 a b := fun a b z => by rw [hr.1 _ _ (by unfold dynP; omega), hbF _ _ (by omega), o75 _ _ (by omega)]
        have o129 : ∀ a b, a ≠ 74 → a ≠ 75 → H129 a b = h88 a b := fun a b z1 z2 => by rw [E129, hu_app, if_neg (fun w => z2 w.1), E113, hu_app, if_neg (fun w => z1 w.1)]
        refine td_to (ih H129 ⟨fun a b z => ?_, ?_, fun i hi => ?_, cfgD g k, ?_, fun a b z => cfgD_o g k a b (by omega), fun i i0 i1 i5 => ?_⟩) (by rw [nI_1]) rfl rfl
        · rw [o129 _ _ (by omega) (by omega), o88 _ _ (by omega)]; exact hF a b z
        · exact (dQE.kn ⟨Q, hQ⟩ hr.1).fr (fun a b z1 z2 => o129 a b (by omega) (by omega))
        · by_cases z : i = k
          · subst z
            refine ⟨?_, ?_⟩
            · rw [E129, hu_app, if_neg (by omega), E113, hu_app, if_pos ⟨rfl, rfl⟩]
            · rw [E129, hu_app, if_pos ⟨rfl, rfl⟩]
          · refine ⟨?_, ?_⟩
            · rw [E129, hu_app, if_neg (by omega), E113, hu_app, if_neg (by omega), o88 _ _ (by omega)]; exact (hD i (by omega)).1
            · rw [E129, hu_app, if_neg (by omega), E113, hu_app, if_neg (by omega), o88 _ _ (by omega)]; exact (hD i (by omega)).2
        · refine ⟨P88.1, fun i hi => ?_, ?_, fun p hp => ?_⟩
          · rw [o129 _ _ (by omega) (by omega)]; exact P88.2.1 i hi
          · rw [o129 _ _ (by omega) (by omega)]; exact P88.2.2.1
          · rw [o129 _ _ (by omega) (by omega), o129 _ _ (by omega) (by omega), o129 _ _ (by omega) (by omega)]; exact P88.2.2.2 p hp
        · unfold cfgD
          rw [if_neg (fun z => i0 z.2), if_neg (fun z => i1 z.2), if_neg (fun z => i5 z.2)]
    · obtain ⟨hF, hK1, hD, -⟩ := hI
      refine gX8_findDoors_18 (n := 0) (q := 0) (f := fun _ => 0) (c := g) rfl ⟨fun _ => ⟨rfl, fun a b z => ?_, hK1.fr (fun a b z1 z2 => by rw [hu_app, if_neg (by omega)]), by rw [hu_app, if_pos ⟨rfl, rfl⟩], fun i hi => ?_⟩, fun y => absurd (by decide) y⟩
      · rw [hu_app, if_neg (by omega)]; exact hF a b z
      · rw [hu_app, if_neg (by omega), hu_app, if_neg (by omega)]; exact hD i hi
  · rcases hd with z | z
    · exact absurd z y
    · exact ⟨rfl, fun _ _ _ => rfl, hK, z.1, z.2⟩
set_option maxRecDepth 20000 in
set_option maxHeartbeats 4000000 in
theorem gX8_warmestDoor_0 {G : td_G} {d : Nat} {Post : td_P} {x1 : Int32} {h : td_H} (K : td_J G d mX8_warmestDoor Post 4 [(0, .ref 43), (1, .int x1), (2, .int (-1)), (3, .int 0)] [] h) : td_J G d mX8_warmestDoor Post 0 [(0, .ref 43), (1, .int x1)] [] h := by
  refine td_iconst (v := (-1)) dX8_warmestDoor_0 (by decide) ?_
  refine td_istore_n (lv2 := [(0, .ref 43), (1, .int x1), (2, .int (-1))]) dX8_warmestDoor_1 (by decide) rfl ?_
  refine td_iconst (v := 0) dX8_warmestDoor_2 (by decide) ?_
  refine td_istore_n (lv2 := [(0, .ref 43), (1, .int x1), (2, .int (-1)), (3, .int 0)]) dX8_warmestDoor_3 (by decide) rfl ?_
  exact K
set_option maxRecDepth 20000 in
set_option maxHeartbeats 4000000 in
theorem gX8_warmestDoor_4 {G : td_G} {d : Nat} {Post : td_P} {x1 x2 x3 : Int32} {h : td_H} (K : (18 ≤ x3 → (Post (some (.int x2)) h)) ∧ (¬ 18 ≤ x3 → (vp_in x3 18 ∧ ((¬ x1 < (h 74 (ix x3)) → (¬ x2 < 0 → (vp_in x2 18 ∧ True))) ∧ (td_J G d mX8_warmestDoor Post 4 [(0, .ref 43), (1, .int x1), (2, .int (if x1 < (h 74 (ix x3)) then x2 else if x2 < 0 then x3 else if (h 75 (ix x2)) ≤ (h 75 (ix x3)) then x2 else x3 : Int32)), (3, .int (x3 + 1))] [] h))))) : td_J G d mX8_warmestDoor Post 4 [(0, .ref 43), (1, .int x1), (2, .int x2), (3, .int x3)] [] h := by
  refine td_iload_n 3 dX8_warmestDoor_4 rfl ?_
  refine td_bipush (v := 18) dX8_warmestDoor_5 (by decide) ?_
  obtain ⟨Kt, Kf⟩ := K
  refine td_icmp_ge (tgt := 47) dX8_warmestDoor_7 (by decide) (fun q7 => ?_) (fun q7 => ?_)
  · have K := Kt q7
    refine td_iload_n 2 dX8_warmestDoor_47 rfl ?_
    exact td_ireturn rfl dX8_warmestDoor_48 K
  · have K := Kf q7
    refine td_aload_n 0 dX8_warmestDoor_10 rfl ?_
    refine gf_X8_36 rfl kp_43 dX8_warmestDoor_11 ?_
    refine td_iload_n 3 dX8_warmestDoor_14 rfl ?_
    obtain ⟨e15, K⟩ := K
    refine td_ialdc (j := (ix x3)) kp_74 (by decide) e15 rfl dX8_warmestDoor_15 ?_
    refine td_iload_n 1 dX8_warmestDoor_16 rfl ?_
    obtain ⟨Ks17, K⟩ := K
    have KJ41 : td_J G d mX8_warmestDoor Post 41 [(0, .ref 43), (1, .int x1), (2, .int (if x1 < (h 74 (ix x3)) then x2 else if x2 < 0 then x3 else if (h 75 (ix x2)) ≤ (h 75 (ix x3)) then x2 else x3 : Int32)), (3, .int x3)] [] h := by
      refine td_iinc 3 (v := x3 + 1) (lv2 := [(0, .ref 43), (1, .int x1), (2, .int (if x1 < (h 74 (ix x3)) then x2 else if x2 < 0 then x3 else if (h 75 (ix x2)) ≤ (h 75 (ix x3)) then x2 else x3 : Int32)), (3, .int (x3 + 1))]) dX8_warmestDoor_41 rfl (congrArg (x3 + ·) (by decide)) (by decide) rfl ?_
      refine td_goto (tgt := 4) dX8_warmestDoor_44 (by decide) ?_
      exact K
    refine td_icmp_gt (tgt := 41) dX8_warmestDoor_17 (by decide) (fun q17 => ?_) (fun q17 => ?_)
    · skip
      exact td_to KJ41 (by rw [show (if x1 < (h 74 (ix x3)) then x2 else if x2 < 0 then x3 else if (h 75 (ix x2)) ≤ (h 75 (ix x3)) then x2 else x3 : Int32) = _ from if_pos q17]) rfl rfl
    · have K := Ks17 q17
      refine td_iload_n 2 dX8_warmestDoor_20 rfl ?_
      refine td_if_lt (tgt := 39) dX8_warmestDoor_21 (by decide) (fun q21 => ?_) (fun q21 => ?_)
      · skip
        refine td_iload_n 3 dX8_warmestDoor_39 rfl ?_
        refine td_istore_n (lv2 := [(0, .ref 43), (1, .int x1), (2, .int x3), (3, .int x3)]) dX8_warmestDoor_40 (by decide) rfl ?_
        exact td_to KJ41 (by rw [show (if x1 < (h 74 (ix x3)) then x2 else if x2 < 0 then x3 else if (h 75 (ix x2)) ≤ (h 75 (ix x3)) then x2 else x3 : Int32) = _ from (if_neg q17).trans (if_pos q21)]) rfl rfl
      · have K := K q21
        refine td_aload_n 0 dX8_warmestDoor_24 rfl ?_
        refine gf_X8_39 rfl kp_43 dX8_warmestDoor_25 ?_
        refine td_iload_n 3 dX8_warmestDoor_28 rfl ?_
        refine td_ialdc (j := (ix x3)) kp_75 (by decide) e15 rfl dX8_warmestDoor_29 ?_
        refine td_aload_n 0 dX8_warmestDoor_30 rfl ?_
        refine gf_X8_39 rfl kp_43 dX8_warmestDoor_31 ?_
        refine td_iload_n 2 dX8_warmestDoor_34 rfl ?_
        obtain ⟨e35, K⟩ := K
        refine td_ialdc (j := (ix x2)) kp_75 (by decide) e35 rfl dX8_warmestDoor_35 ?_
        refine td_icmp_ge (tgt := 41) dX8_warmestDoor_36 (by decide) (fun q36 => ?_) (fun q36 => ?_)
        · skip
          exact td_to KJ41 (by rw [show (if x1 < (h 74 (ix x3)) then x2 else if x2 < 0 then x3 else if (h 75 (ix x2)) ≤ (h 75 (ix x3)) then x2 else x3 : Int32) = _ from (if_neg q17).trans ((if_neg q21).trans (if_pos q36))]) rfl rfl
        · skip
          refine td_iload_n 3 dX8_warmestDoor_39 rfl ?_
          refine td_istore_n (lv2 := [(0, .ref 43), (1, .int x1), (2, .int x3), (3, .int x3)]) dX8_warmestDoor_40 (by decide) rfl ?_
          exact td_to KJ41 (by rw [show (if x1 < (h 74 (ix x3)) then x2 else if x2 < 0 then x3 else if (h 75 (ix x2)) ≤ (h 75 (ix x3)) then x2 else x3 : Int32) = _ from (if_neg q17).trans ((if_neg q21).trans (if_neg q36))]) rfl rfl
set_option maxRecDepth 20000 in
set_option maxHeartbeats 4000000 in
theorem gX8_lossOf_0 {G : td_G} {d : Nat} {Post : td_P} {x1 : Int32} {h : td_H} (K : (¬ (b2i (0 ≤ x1 ∧ x1 < 18)) = 0 → (vp_in x1 18 ∧ True)) ∧ (Post (some (.int (if (b2i (0 ≤ x1 ∧ x1 < 18)) = 0 then 0 else (h 75 (ix x1)) : Int32))) h)) : td_J G (d + 1) mX8_lossOf Post 0 [(0, .ref 43), (1, .int x1)] [] h := by
  refine td_iload_n 1 dX8_lossOf_0 rfl ?_
  refine td_bipush (v := 18) dX8_lossOf_1 (by decide) ?_
  refine cl_X8_91 rfl dX8_lossOf_3 (Nat.le_of_ble_eq_true rfl) (c_isIn x1 18) (eR_k ?_)
  refine td_eqs (st2 := [.int (b2i (0 ≤ x1 ∧ x1 < 18))]) rfl ?_
  obtain ⟨Ks6, K⟩ := K
  have KJ19 : td_J G (d + 1) mX8_lossOf Post 19 [(0, .ref 43), (1, .int x1)] [.int (if (b2i (0 ≤ x1 ∧ x1 < 18)) = 0 then 0 else (h 75 (ix x1)) : Int32)] h := by
    exact td_ireturn rfl dX8_lossOf_19 K
  refine td_if_eq (tgt := 18) dX8_lossOf_6 (by decide) (fun q6 => ?_) (fun q6 => ?_)
  · skip
    refine td_iconst (v := 0) dX8_lossOf_18 (by decide) ?_
    exact td_to KJ19 rfl (by rw [show (if (b2i (0 ≤ x1 ∧ x1 < 18)) = 0 then 0 else (h 75 (ix x1)) : Int32) = _ from if_pos q6]) rfl
  · have K := Ks6 q6
    refine td_aload_n 0 dX8_lossOf_9 rfl ?_
    refine gf_X8_39 rfl kp_43 dX8_lossOf_10 ?_
    refine td_iload_n 1 dX8_lossOf_13 rfl ?_
    obtain ⟨e14, K⟩ := K
    refine td_ialdc (j := (ix x1)) kp_75 (by decide) e14 rfl dX8_lossOf_14 ?_
    refine td_goto (tgt := 19) dX8_lossOf_15 (by decide) ?_
    exact td_to KJ19 rfl (by rw [show (if (b2i (0 ≤ x1 ∧ x1 < 18)) = 0 then 0 else (h 75 (ix x1)) : Int32) = _ from if_neg q6]) rfl
/-- the warmest door of those below k; 18: none -/
def wmB (g : nH) (t : Nat) : Nat → Nat
  | 0 => 18
  | k + 1 => if lastE (cfgD g k) ≤ t ∧ (wmB g t k = 18 ∨ nI (lossE (cfgD g k)) < nI (lossE (cfgD g (wmB g t k)))) then k else wmB g t k
theorem wmB_lt (g : nH) (t : Nat) : ∀ k, k ≤ 18 → wmB g t k = 18 ∨ wmB g t k < k
  | 0, _ => Or.inl rfl
  | k + 1, h => by
    have ih := wmB_lt g t k (by omega)
    unfold wmB
    split
    · right; omega
    · omega
def n18 (v : Nat) : Int32 := if v = 18 then -1 else nI v
theorem c_R_warmest {G : td_G} {d : Nat} {h : td_H} {g : nH} (hn : g 1 0 ≤ 12) (x : Int32) (hd : doI g 18 h) (hx : vp_in x 120) : td_C G d mX8_warmestDoor [.ref 43, .int x] h (eR (n18 (wmB g (ix x) 18)) h) := by
  obtain ⟨t, ht, rfl⟩ := vp_in_of hx (by decide)
  rw [ixn (by omega)]
  refine td_entry rfl (Nat.le_of_ble_eq_true rfl) rfl (gX8_warmestDoor_0 ?_)
  refine td_for 18 (fun k => [(0, .ref 43), (1, .int (nI t)), (2, .int (n18 (wmB g t k))), (3, .int (nI k))]) (fun _ => h) rfl rfl (fun k hk ih => ?_) ?_
  · have hl : lastE (cfgD g k) ≤ 120 := lastE_le (by rw [cfgD_o g k 1 0 (by decide)]; exact hn)
    have hb := wmB_lt g t k (by omega)
    have ex : wmB g t k ≠ 18 → ix (n18 (wmB g t k)) = wmB g t k ∧ n18 (wmB g t k) = nI (wmB g t k) := fun z => by
      unfold n18
      rw [if_neg z, ixn (by omega)]
      exact ⟨rfl, rfl⟩
    have neg : n18 (wmB g t k) < 0 ↔ wmB g t k = 18 := by
      unfold n18
      by_cases z : wmB g t k = 18
      · rw [if_pos z]; exact ⟨fun _ => z, fun _ => by decide⟩
      · rw [if_neg z]; exact ⟨fun y => absurd y (nI_pos (by omega)), fun y => absurd y z⟩
    refine gX8_warmestDoor_4 ⟨fun y => absurd (le_of (a := 18) y) (by omega), fun _ => ⟨vp_in_nI hk (by decide), fun _ y => ?_, ?_⟩⟩
    · have z : wmB g t k ≠ 18 := fun w => y (neg.mpr w)
      rw [(ex z).2]
      exact ⟨vp_in_nI (by omega) (by decide), trivial⟩
    · refine td_to ih ?_ rfl rfl
      rw [ixn (by omega), (hd k hk).1, (hd k hk).2, nI_1]
      rw [show wmB g t (k + 1) = if lastE (cfgD g k) ≤ t ∧ (wmB g t k = 18 ∨ nI (lossE (cfgD g k)) < nI (lossE (cfgD g (wmB g t k)))) then k else wmB g t k from rfl]
      have e : (if nI t < nI (lastE (cfgD g k)) then n18 (wmB g t k) else if n18 (wmB g t k) < 0 then nI k else if h 75 (ix (n18 (wmB g t k))) ≤ nI (lossE (cfgD g k)) then n18 (wmB g t k) else nI k : Int32) = n18 (if lastE (cfgD g k) ≤ t ∧ (wmB g t k = 18 ∨ nI (lossE (cfgD g k)) < nI (lossE (cfgD g (wmB g t k)))) then k else wmB g t k) := by
        have nk : n18 k = nI k := by unfold n18; rw [if_neg (by omega)]
        by_cases y1 : lastE (cfgD g k) ≤ t
        · rw [if_neg (show ¬ nI t < nI (lastE (cfgD g k)) from fun z => by have := lt_of z; omega)]
          by_cases y2 : wmB g t k = 18
          · rw [if_pos (neg.mpr y2), if_pos ⟨y1, Or.inl y2⟩, nk]
          · rw [if_neg (fun z => y2 (neg.mp z)), (ex y2).1, (hd (wmB g t k) (by omega)).2]
            by_cases y3 : nI (lossE (cfgD g k)) < nI (lossE (cfgD g (wmB g t k)))
            · rw [if_neg (show ¬ nI (lossE (cfgD g (wmB g t k))) ≤ nI (lossE (cfgD g k)) from fun z => by rw [fa_le] at z; rw [fa_lt] at y3; omega), if_pos ⟨y1, Or.inr y3⟩, nk]
            · rw [if_pos (show nI (lossE (cfgD g (wmB g t k))) ≤ nI (lossE (cfgD g k)) from fa_of_nlt y3), if_neg (fun z => by rcases z.2 with w | w; exact y2 w; exact y3 w)]
        · rw [if_pos (show nI t < nI (lastE (cfgD g k)) from (nI_ltI (by omega) (by omega)).mpr (by omega)), if_neg (fun z => y1 z.1)]
      rw [e]
  · exact gX8_warmestDoor_4 ⟨fun _ => ⟨rfl, rfl⟩, fun y => absurd (by decide) y⟩
theorem c_R_lossOf {G : td_G} {d : Nat} {h : td_H} (k : Nat) (x : Int32) (hx : x = nI k) (hk : k < 18) : td_C G (d + 1) mX8_lossOf [.ref 43, .int x] h (eR (h 75 k) h) := by
  subst hx
  have z : ¬ b2i (0 ≤ nI k ∧ nI k < 18) = 0 := fun y => b2i_0.mp y ((is_in (n := 18) (by decide)).mpr (vp_in_nI hk (by decide)))
  refine td_entry rfl (Nat.le_of_ble_eq_true rfl) rfl (gX8_lossOf_0 ⟨fun _ => ⟨vp_in_nI hk (by decide), trivial⟩, ?_, rfl⟩)
  rw [if_neg z, ixn (by omega)]
theorem c_R_warmest' {G : td_G} {d : Nat} {h : td_H} {g : nH} (x : Int32) (hn : g 1 0 ≤ 12) (hd : doI g 18 h) (hx : vp_in x 120) : td_C G d mX8_warmestDoor [.ref 43, .int x] h (eR (n18 (wmB g (ix x) 18)) h) := c_R_warmest hn x hd hx
