/-! ===== motor, warmest, without, image, restore, sheets ===== -/
set_option maxRecDepth 20000 in
set_option maxHeartbeats 4000000 in
theorem gX9_motor_0 {G : td_G} {d : Nat} {Post : td_P} {c : nH} {x1 : Int32} {h : td_H} (K : (¬ (b2i (0 ≤ x1 ∧ x1 < 120)) = 0 → (dP c 1 h ∧ 12 ≤ c 5 0 ∧ dKn 50 h ∧ moI c h ∧ vp_in x1 120 ∧ (∀ h20 : td_H, (FrM1 h h20 ∧ dKn 50 h20 ∧ moI c h20) → (Post (some (.int (mtS c (ix x1) 21 0))) h20)))) ∧ ((b2i (0 ≤ x1 ∧ x1 < 120)) = 0 → (Post (some (.int (-1))) h))) : td_J G (d + 7) mX9_motor Post 0 [(0, .ref 0), (1, .int x1)] [] h := by
  refine td_iload_n 1 dX9_motor_0 rfl ?_
  refine td_bipush (v := 120) dX9_motor_1 (by decide) ?_
  refine cl_X9_54 rfl dX9_motor_3 (Nat.le_of_ble_eq_true rfl) (c_isIn x1 120) (eR_k ?_)
  refine td_eqs (st2 := [.int (b2i (0 ≤ x1 ∧ x1 < 120))]) rfl ?_
  obtain ⟨Kt, Kf⟩ := K
  refine td_if_ne (tgt := 11) dX9_motor_6 (by decide) (fun q6 => ?_) (fun q6 => ?_)
  · have K := Kt q6
    refine td_aload_n 0 dX9_motor_11 rfl ?_
    refine gf_X9_49 rfl kp_0 dX9_motor_12 ?_
    refine td_aload_n 0 dX9_motor_15 rfl ?_
    refine gf_X9_12 rfl kp_0 dX9_motor_16 ?_
    refine td_iload_n 1 dX9_motor_19 rfl ?_
    obtain ⟨e20_0, K⟩ := K
    obtain ⟨e20_1, K⟩ := K
    obtain ⟨e20_2, K⟩ := K
    obtain ⟨e20_3, K⟩ := K
    obtain ⟨e20_4, K⟩ := K
    refine cl_X9_203 rfl kp_43 dX9_motor_20 (Nat.le_of_ble_eq_true rfl) (c_R_motor x1 e20_0 e20_1 e20_2 e20_3 e20_4) ?_
    rintro _ h20 ⟨rfl, f20⟩
    have K := K h20 f20
    refine td_eqs (st2 := [.int (mtS c (ix x1) 21 0)]) rfl ?_
    exact td_ireturn rfl dX9_motor_23 K
  · have K := Kf q6
    refine td_iconst (v := (-1)) dX9_motor_9 (by decide) ?_
    exact td_ireturn rfl dX9_motor_10 K
def rMot (g : nH) (x : Int32) : Int32 := if 0 ≤ x ∧ x < 120 then mtS g (ix x) 21 0 else -1
theorem D_motor {G : td_G} {d : Nat} {h : td_H} {s : gS} (x1 : Int32) (I : DI s h) : td_C G (d + 7) mX9_motor [.ref 0, .int x1] h (dPost (rMot s.1 x1) s h) := by
  refine td_entry rfl (Nat.le_of_ble_eq_true rfl) rfl (gX9_motor_0 (c := s.1) ?_)
  by_cases ok : (0 ≤ x1 ∧ x1 < 120)
  · have ea : rMot s.1 x1 = mtS s.1 (ix x1) 21 0 := by unfold rMot; rw [if_pos ok]
    rw [ea]
    refine ⟨fun _ => ⟨I.1.1, I.1.2.1, I.1.2.2.2.2.2.2.2, I.2.2.1, (is_in (n := 120) (by decide)).mp ok, fun h2 hh => ⟨rfl, I.m1 hh.1 hh.2.1 hh.2.2⟩⟩, fun y => absurd ok (bz y)⟩
  · have ea : rMot s.1 x1 = -1 := by unfold rMot; rw [if_neg ok]
    rw [ea]
    exact ⟨fun y => absurd (bnz y) ok, fun _ => ⟨rfl, I, FM.rf h⟩⟩
set_option maxRecDepth 20000 in
set_option maxHeartbeats 4000000 in
theorem gX9_warmest_0 {G : td_G} {d : Nat} {Post : td_P} {kb : Nat} {c : nH} {x1 x2 : Int32} {h : td_H} (K : ((b2i (0 ≤ x1 ∧ x1 < 120)) = 0 → (Post (some (.int (-1))) h)) ∧ (¬ (b2i (0 ≤ x1 ∧ x1 < 120)) = 0 → ((¬ (b2i (0 ≤ x2 ∧ x2 < 4)) = 0 → (dP c 1 h ∧ 12 ≤ c 5 0 ∧ dKn 50 h ∧ (h 43 8 = 0 ∨ (h 43 8 = 1 ∧ doI c 18 h)) ∧ (∀ h27 : td_H, (FrM2 h h27 ∧ dKn 50 h27 ∧ h27 43 8 = 1 ∧ doI c 18 h27) → (c 1 0 ≤ 12 ∧ doI c 18 h27 ∧ vp_in x1 120 ∧ ((0 ≤ (n18 (wmB c (ix x1) 18)) → ((x2 = 0 → (Post (some (.int (3 + ((n18 (wmB c (ix x1) 18)) / 9)))) h27)) ∧ (x2 = 1 → (Post (some (.int (1 + (jrem ((n18 (wmB c (ix x1) 18)) / 3) 3)))) h27)) ∧ (x2 = 2 → (Post (some (.int (1 + (jrem (n18 (wmB c (ix x1) 18)) 3)))) h27)) ∧ (¬ x2 = 0 ∧ ¬ x2 = 1 ∧ ¬ x2 = 2 → ((n18 (wmB c (ix x1) 18)) = nI kb ∧ kb < 18 ∧ (Post (some (.int (h27 75 kb))) h27))))) ∧ (¬ 0 ≤ (n18 (wmB c (ix x1) 18)) → (Post (some (.int (-4))) h27))))))) ∧ ((b2i (0 ≤ x2 ∧ x2 < 4)) = 0 → (Post (some (.int (-1))) h))))) : td_J G (d + 7) mX9_warmest Post 0 [(0, .ref 0), (1, .int x1), (2, .int x2)] [] h := by
  refine td_iload_n 1 dX9_warmest_0 rfl ?_
  refine td_bipush (v := 120) dX9_warmest_1 (by decide) ?_
  refine cl_X9_54 rfl dX9_warmest_3 (Nat.le_of_ble_eq_true rfl) (c_isIn x1 120) (eR_k ?_)
  refine td_eqs (st2 := [.int (b2i (0 ≤ x1 ∧ x1 < 120))]) rfl ?_
  obtain ⟨Kt, Kf⟩ := K
  refine td_if_eq (tgt := 17) dX9_warmest_6 (by decide) (fun q6 => ?_) (fun q6 => ?_)
  · have K := Kt q6
    refine td_iconst (v := (-1)) dX9_warmest_17 (by decide) ?_
    exact td_ireturn rfl dX9_warmest_18 K
  · have K := Kf q6
    refine td_iload_n 2 dX9_warmest_9 rfl ?_
    refine td_iconst (v := 4) dX9_warmest_10 (by decide) ?_
    refine cl_X9_54 rfl dX9_warmest_11 (Nat.le_of_ble_eq_true rfl) (c_isIn x2 4) (eR_k ?_)
    refine td_eqs (st2 := [.int (b2i (0 ≤ x2 ∧ x2 < 4))]) rfl ?_
    obtain ⟨Kt, Kf⟩ := K
    refine td_if_ne (tgt := 19) dX9_warmest_14 (by decide) (fun q14 => ?_) (fun q14 => ?_)
    · have K := Kt q14
      refine td_aload_n 0 dX9_warmest_19 rfl ?_
      refine gf_X9_49 rfl kp_0 dX9_warmest_20 ?_
      refine td_aload_n 0 dX9_warmest_23 rfl ?_
      refine gf_X9_12 rfl kp_0 dX9_warmest_24 ?_
      obtain ⟨e27_0, K⟩ := K
      obtain ⟨e27_1, K⟩ := K
      obtain ⟨e27_2, K⟩ := K
      obtain ⟨e27_3, K⟩ := K
      refine cl_X9_207 rfl kp_43 dX9_warmest_27 (Nat.le_of_ble_eq_true rfl) (c_R_doors e27_0 e27_1 e27_2 e27_3) ?_
      rintro _ h27 ⟨rfl, f27⟩
      have K := K h27 f27
      refine td_eqs (st2 := []) rfl ?_
      refine td_aload_n 0 dX9_warmest_30 rfl ?_
      refine gf_X9_49 rfl kp_0 dX9_warmest_31 ?_
      refine td_iload_n 1 dX9_warmest_34 rfl ?_
      obtain ⟨e35_0, K⟩ := K
      obtain ⟨e35_1, K⟩ := K
      obtain ⟨e35_2, K⟩ := K
      refine cl_X9_211 rfl kp_43 dX9_warmest_35 (Nat.le_of_ble_eq_true rfl) (c_R_warmest' x1 e35_0 e35_1 e35_2) (eR_k ?_)
      refine td_eqs (st2 := [.int (n18 (wmB c (ix x1) 18))]) rfl ?_
      refine td_istore_n (lv2 := [(0, .ref 0), (1, .int x1), (2, .int x2), (3, .int (n18 (wmB c (ix x1) 18)))]) dX9_warmest_38 (by decide) rfl ?_
      refine td_iload_n 3 dX9_warmest_39 rfl ?_
      obtain ⟨Kt, Kf⟩ := K
      refine td_if_ge (tgt := 46) dX9_warmest_40 (by decide) (fun q40 => ?_) (fun q40 => ?_)
      · have K := Kt q40
        refine td_iload_n 2 dX9_warmest_46 rfl ?_
        obtain ⟨K0, K⟩ := K
        by_cases q0 : x2 = 0
        · have K := K0 q0
          refine td_eqs (congrArg (fun z => Value.int z :: []) q0.symm) ?_
          refine td_tsin (tgt := 72) dX9_warmest_47 (by decide) (by decide) rfl (by decide) ?_
          refine td_iload_n 3 dX9_warmest_72 rfl ?_
          refine cl_X9_214 rfl dX9_warmest_73 (Nat.le_of_ble_eq_true rfl) (c_R_leaves (n18 (wmB c (ix x1) 18))) (eR_k ?_)
          refine td_eqs (st2 := [.int (3 + ((n18 (wmB c (ix x1) 18)) / 9))]) rfl ?_
          exact td_ireturn rfl dX9_warmest_76 K
        obtain ⟨K1, K⟩ := K
        by_cases q1 : x2 = 1
        · have K := K1 q1
          refine td_eqs (congrArg (fun z => Value.int z :: []) q1.symm) ?_
          refine td_tsin (tgt := 77) dX9_warmest_47 (by decide) (by decide) rfl (by decide) ?_
          refine td_iload_n 3 dX9_warmest_77 rfl ?_
          refine cl_X9_217 rfl dX9_warmest_78 (Nat.le_of_ble_eq_true rfl) (c_R_opening (n18 (wmB c (ix x1) 18))) (eR_k ?_)
          refine td_eqs (st2 := [.int (1 + (jrem ((n18 (wmB c (ix x1) 18)) / 3) 3))]) rfl ?_
          exact td_ireturn rfl dX9_warmest_81 K
        obtain ⟨K2, K⟩ := K
        by_cases q2 : x2 = 2
        · have K := K2 q2
          refine td_eqs (congrArg (fun z => Value.int z :: []) q2.symm) ?_
          refine td_tsin (tgt := 82) dX9_warmest_47 (by decide) (by decide) rfl (by decide) ?_
          refine td_iload_n 3 dX9_warmest_82 rfl ?_
          refine cl_X9_220 rfl dX9_warmest_83 (Nat.le_of_ble_eq_true rfl) (c_R_governor (n18 (wmB c (ix x1) 18))) (eR_k ?_)
          refine td_eqs (st2 := [.int (1 + (jrem (n18 (wmB c (ix x1) 18)) 3))]) rfl ?_
          exact td_ireturn rfl dX9_warmest_86 K
        have K := K ⟨q0, q1, q2⟩
        refine td_tsout (tgt := 87) dX9_warmest_47 (by have z : ∀ n : Nat, n < 16 → ¬ x2 = nI n → x2.toInt ≠ n := fun n hn e g => e (td_i32 g hn); have z0 := z 0 (by decide) q0; have z1 := z 1 (by decide) q1; have z2 := z 2 (by decide) q2; omega) (by decide) ?_
        refine td_aload_n 0 dX9_warmest_87 rfl ?_
        refine gf_X9_49 rfl kp_0 dX9_warmest_88 ?_
        refine td_iload_n 3 dX9_warmest_91 rfl ?_
        obtain ⟨e92_0, K⟩ := K
        obtain ⟨e92_1, K⟩ := K
        refine cl_X9_223 rfl kp_43 dX9_warmest_92 (Nat.le_of_ble_eq_true rfl) (c_R_lossOf kb (n18 (wmB c (ix x1) 18)) e92_0 e92_1) (eR_k ?_)
        refine td_eqs (st2 := [.int (h27 75 kb)]) rfl ?_
        exact td_ireturn rfl dX9_warmest_95 K
      · have K := Kf q40
        refine td_bipush (v := (-4)) dX9_warmest_43 (by decide) ?_
        exact td_ireturn rfl dX9_warmest_45 K
    · have K := Kf q14
      refine td_iconst (v := (-1)) dX9_warmest_17 (by decide) ?_
      exact td_ireturn rfl dX9_warmest_18 K
def aWarm (g : nH) (k : Nat) (y : Int32) : Int32 := if y = 0 then nI (3 + k / 9) else if y = 1 then nI (1 + k / 3 % 3) else if y = 2 then nI (1 + k % 3) else nI (lossE (cfgD g k))
def rWarm (g : nH) (x y : Int32) : Int32 := if (0 ≤ x ∧ x < 120) ∧ (0 ≤ y ∧ y < 4) then (if wmB g (ix x) 18 = 18 then -4 else aWarm g (wmB g (ix x) 18) y) else -1
theorem D_warmest {G : td_G} {d : Nat} {h : td_H} {s : gS} (x1 x2 : Int32) (I : DI s h) : td_C G (d + 7) mX9_warmest [.ref 0, .int x1, .int x2] h (dPost (rWarm s.1 x1 x2) s h) := by
  have hn := I.1.1.1.n
  refine td_entry rfl (Nat.le_of_ble_eq_true rfl) rfl (gX9_warmest_0 (c := s.1) (kb := wmB s.1 (ix x1) 18) ?_)
  by_cases ok1 : (0 ≤ x1 ∧ x1 < 120)
  · by_cases ok2 : (0 ≤ x2 ∧ x2 < 4)
    · have ea : rWarm s.1 x1 x2 = (if wmB s.1 (ix x1) 18 = 18 then -4 else aWarm s.1 (wmB s.1 (ix x1) 18) x2) := by unfold rWarm; rw [if_pos ⟨ok1, ok2⟩]
      rw [ea]
      have hk := wmB_lt s.1 (ix x1) 18 (Nat.le_refl _)
      refine ⟨fun y => absurd ok1 (bz y), fun _ => ⟨fun _ => ⟨I.1.1, I.1.2.1, I.1.2.2.2.2.2.2.2, I.2.2.2.1, fun h2 hh => ⟨hn, hh.2.2.2, (is_in (n := 120) (by decide)).mp ok1, ?_⟩⟩, fun y => absurd ok2 (bz y)⟩⟩
      obtain ⟨I2, F2⟩ := I.m2 hh.1 hh.2.1 hh.2.2.1 hh.2.2.2
      have hd := hh.2.2.2
      generalize wmB s.1 (ix x1) 18 = k at hk ⊢
      rcases hk with z | z
      · subst z
        refine ⟨fun y => absurd y (by decide), fun _ => ⟨rfl, I2, F2⟩⟩
      · have e18 : n18 k = nI k := by unfold n18; rw [if_neg (by omega)]
        obtain ⟨q1, q2, q3⟩ := door_n z
        rw [e18, if_neg (by omega)]
        refine ⟨fun _ => ⟨fun y => ⟨?_, I2, F2⟩, fun y => ⟨?_, I2, F2⟩, fun y => ⟨?_, I2, F2⟩, fun y => ⟨rfl, z, ?_, I2, F2⟩⟩, fun y => absurd ((nI_leI (a := 0) (by decide) (by omega)).mpr (Nat.zero_le k)) y⟩ <;> unfold aWarm
        · rw [if_pos y, q1]
        · subst y; rw [if_neg (by decide), if_pos rfl, q2]
        · subst y; rw [if_neg (by decide), if_neg (by decide), if_pos rfl, q3]
        · rw [if_neg y.1, if_neg y.2.1, if_neg y.2.2, (hd k z).2]
    · have ea : rWarm s.1 x1 x2 = -1 := by unfold rWarm; rw [if_neg (fun z => ok2 z.2)]
      rw [ea]
      exact ⟨fun _ => ⟨rfl, I, FM.rf h⟩, fun _ => ⟨fun y => absurd (bnz y) ok2, fun _ => ⟨rfl, I, FM.rf h⟩⟩⟩
  · have ea : rWarm s.1 x1 x2 = -1 := by unfold rWarm; rw [if_neg (fun z => ok1 z.1)]
    rw [ea]
    exact ⟨fun _ => ⟨rfl, I, FM.rf h⟩, fun y => absurd (bnz y) ok1⟩
set_option maxRecDepth 20000 in
set_option maxHeartbeats 4000000 in
theorem gX9_without_0 {G : td_G} {d : Nat} {Post : td_P} {c : nH} {x1 : Int32} {h : td_H} (K : (¬ (b2i (0 ≤ x1 ∧ x1 < h 1 4)) = 0 → (dP c 1 h ∧ 12 ≤ c 5 0 ∧ dKn 18 h ∧ (h 0 8 = 0 ∨ (h 0 8 = 1 ∧ plI c h)) ∧ (∀ h16 : td_H, (FrP h h16 ∧ h16 0 8 = 1 ∧ plI c h16 ∧ dKn 18 h16) → (dP c 1 h16 ∧ dKn 50 h16 ∧ vp_in x1 12 ∧ (∀ h38 : td_H, ((∀ a b, ¬ (49 ≤ a ∧ a ≤ 63) → h38 a b = h16 a b) ∧ dKn 50 h38) → (Post (some (.int ((h16 18 11) - (nI (lossE (cfgW c (ix x1))))))) h38)))))) ∧ ((b2i (0 ≤ x1 ∧ x1 < h 1 4)) = 0 → (Post (some (.int (-100001))) h))) : td_J G (d + 7) mX9_without Post 0 [(0, .ref 0), (1, .int x1)] [] h := by
  refine td_aload_n 0 dX9_without_0 rfl ?_
  refine gf_X9_12 rfl kp_0 dX9_without_1 ?_
  refine td_iload_n 1 dX9_without_4 rfl ?_
  refine cl_X9_88 rfl kp_1 dX9_without_5 (Nat.le_of_ble_eq_true rfl) (c_P_has kp_1 x1) (eR_k ?_)
  refine td_eqs (st2 := [.int (b2i (0 ≤ x1 ∧ x1 < h 1 4))]) rfl ?_
  obtain ⟨Kt, Kf⟩ := K
  refine td_if_ne (tgt := 15) dX9_without_8 (by decide) (fun q8 => ?_) (fun q8 => ?_)
  · have K := Kt q8
    refine td_aload_n 0 dX9_without_15 rfl ?_
    obtain ⟨e16_0, K⟩ := K
    obtain ⟨e16_1, K⟩ := K
    obtain ⟨e16_2, K⟩ := K
    obtain ⟨e16_3, K⟩ := K
    refine cl_X9_129 rfl kp_0 dX9_without_16 (Nat.le_of_ble_eq_true rfl) (c_X_play e16_0 e16_1 e16_2 e16_3) ?_
    rintro _ h16 ⟨rfl, f16⟩
    have K := K h16 f16
    refine td_eqs (st2 := []) rfl ?_
    refine td_aload_n 0 dX9_without_19 rfl ?_
    refine gf_X9_35 rfl kp_0 dX9_without_20 ?_
    refine gf_X9_184 rfl kp_17 dX9_without_23 ?_
    refine gf_X9_188 rfl kp_18 dX9_without_26 ?_
    refine td_aload_n 0 dX9_without_29 rfl ?_
    refine gf_X9_49 rfl kp_0 dX9_without_30 ?_
    refine td_aload_n 0 dX9_without_33 rfl ?_
    refine gf_X9_12 rfl kp_0 dX9_without_34 ?_
    refine td_iload_n 1 dX9_without_37 rfl ?_
    obtain ⟨e38_0, K⟩ := K
    obtain ⟨e38_1, K⟩ := K
    obtain ⟨e38_2, K⟩ := K
    refine cl_X9_269 rfl kp_43 dX9_without_38 (Nat.le_of_ble_eq_true rfl) (c_R_without x1 e38_0 e38_1 e38_2) ?_
    rintro _ h38 ⟨rfl, f38⟩
    have K := K h38 f38
    refine td_eqs (st2 := [.int (nI (lossE (cfgW c (ix x1)))), .int (h16 18 11)]) rfl ?_
    refine td_isub dX9_without_41 ?_
    exact td_ireturn rfl dX9_without_42 K
  · have K := Kf q8
    refine td_ldcw (v := (-100001)) kw_X9_268 dX9_without_11 ?_
    exact td_ireturn rfl dX9_without_14 K
def rWout (g : nH) (x : Int32) : Int32 := if isP g x then nI (lossE g) - nI (lossE (cfgW g (ix x))) else -100001
theorem D_without {G : td_G} {d : Nat} {h : td_H} {s : gS} (x1 : Int32) (I : DI s h) : td_C G (d + 7) mX9_without [.ref 0, .int x1] h (dPost (rWout s.1 x1) s h) := by
  have e4 : h 1 4 = nI (s.1 1 0) := I.1.1.2.2.1
  refine td_entry rfl (Nat.le_of_ble_eq_true rfl) rfl (gX9_without_0 (c := s.1) ?_)
  rw [e4]
  by_cases ok : isP s.1 x1
  · have ea : rWout s.1 x1 = nI (lossE s.1) - nI (lossE (cfgW s.1 (ix x1))) := by unfold rWout; rw [if_pos ok]
    rw [ea]
    obtain ⟨p, hp, -, ep, v12⟩ := isP_of I.1.1.1 ok
    refine ⟨fun _ => ⟨I.1.1, I.1.2.1, I.1.2.2.2.2.2.2.1, I.2.1, fun h2 hh => ?_⟩, fun y => absurd ok (bz y)⟩
    obtain ⟨I2, F2⟩ := I.play hh.1 hh.2.1 hh.2.2.1 hh.2.2.2
    have f : h2 18 11 = nI (lossE s.1) := hh.2.2.1.1.2.2.1.2.2.2
    refine ⟨I2.1.1, I2.1.2.2.2.2.2.2.2, v12, fun h3 h33 => ?_⟩
    obtain ⟨I3, F3⟩ := I2.m5 (h' := h3) (fun a b z => h33.1 a b (by omega)) h33.2
    exact ⟨by rw [f], I3, fun a b z => (F3 a b z).trans (F2 a b z)⟩
  · have ea : rWout s.1 x1 = -100001 := by unfold rWout; rw [if_neg ok]
    rw [ea]
    exact ⟨fun y => absurd (bnz y) ok, fun _ => ⟨rfl, I, FM.rf h⟩⟩
/-! image, restore -/
set_option maxRecDepth 20000 in
set_option maxHeartbeats 4000000 in
theorem gX9_image_0 {G : td_G} {d : Nat} {Post : td_P} {h : td_H} (K : (6 + 4 < 1 ∨ 1 + 4 < 6) ∧ (∀ h8 : td_H, (FrQ (6) h h8 ∧ ∀ c, dP c (1) h → dP c (6) h8) → (Post (some (.int 1)) (hu h8 0 7 1)))) : td_J G (d + 2) mX9_image Post 0 [(0, .ref 0)] [] h := by
  refine td_aload_n 0 dX9_image_0 rfl ?_
  refine gf_X9_16 rfl kp_0 dX9_image_1 ?_
  refine td_aload_n 0 dX9_image_4 rfl ?_
  refine gf_X9_12 rfl kp_0 dX9_image_5 ?_
  obtain ⟨e8_0, K⟩ := K
  refine cl_X9_272 rfl kp_6 dX9_image_8 (Nat.le_of_ble_eq_true rfl) (c_P_become kp_6 kp_1 e8_0) ?_
  rintro _ h8 ⟨rfl, f8⟩
  have K := K h8 f8
  refine td_eqs (st2 := []) rfl ?_
  refine td_aload_n 0 dX9_image_11 rfl ?_
  refine td_iconst (v := 1) dX9_image_12 (by decide) ?_
  refine pf_X9_275 rfl kp_0 (by decide) dX9_image_13 ?_
  refine td_iconst (v := 1) dX9_image_16 (by decide) ?_
  exact td_ireturn rfl dX9_image_17 K
theorem D_image {G : td_G} {d : Nat} {h : td_H} {s : gS} (I : DI s h) : td_C G (d + 2) mX9_image [.ref 0] h (dPost 1 (s.1, some s.1, s.2.2) h) := by
  refine td_entry rfl (Nat.le_of_ble_eq_true rfl) rfl (gX9_image_0 ⟨by decide, fun h2 hh => ?_⟩)
  obtain ⟨⟨a1, a2, a3, a4, a5, a6, a7, a8⟩, c1, c2, c3, c4, c5⟩ := I
  have e : ∀ a b, ¬ ((6 ≤ a ∧ a ≤ 10) ∨ (a = 0 ∧ b = 7)) → (hu h2 0 7 1) a b = h a b := fun a b z => by rw [hu_app, if_neg (by omega)]; exact hh.1 a b (by omega)
  refine ⟨rfl, ⟨⟨a1.fr (fun a b _ _ => e a b (by omega)), a2, ⟨by rw [hu_app, if_pos ⟨rfl, rfl⟩], (hh.2 s.1 a1).fr (fun a b _ _ => by rw [hu_app, if_neg (by omega)]), a2⟩, a4.fr (fun a b z => e a b (by omega)), a5.fr (fun a b _ _ => e a b (by omega)), a6, a7.fr (fun a b _ _ => e a b (by omega)), a8.fr (fun a b _ _ => e a b (by omega))⟩, c1F c1 (fun a b r => e a b (by omega)), c2F c2 (fun a b r => e a b (by omega)), c3F c3 (fun a b r => e a b (by omega)), c4F c4 (fun a b r => e a b (by omega)), c5F c5 (fun a b r => e a b (by omega))⟩, fun a b z => e a b (by omega)⟩
set_option maxRecDepth 20000 in
set_option maxHeartbeats 4000000 in
theorem gX9_restore_0 {G : td_G} {d : Nat} {Post : td_P} {h : td_H} (K : (¬ (h 0 7) = 0 → ((1 + 4 < 6 ∨ 6 + 4 < 1) ∧ (∀ h18 : td_H, (FrQ (1) h h18 ∧ ∀ c, dP c (6) h → dP c (1) h18) → (Post (some (.int 1)) (fgH h18))))) ∧ ((h 0 7) = 0 → (Post (some (.int (-4))) h))) : td_J G (d + 2) mX9_restore Post 0 [(0, .ref 0)] [] h := by
  refine td_aload_n 0 dX9_restore_0 rfl ?_
  refine gf_X9_275 rfl kp_0 dX9_restore_1 ?_
  obtain ⟨Kt, Kf⟩ := K
  refine td_if_ne (tgt := 10) dX9_restore_4 (by decide) (fun q4 => ?_) (fun q4 => ?_)
  · have K := Kt q4
    refine td_aload_n 0 dX9_restore_10 rfl ?_
    refine gf_X9_12 rfl kp_0 dX9_restore_11 ?_
    refine td_aload_n 0 dX9_restore_14 rfl ?_
    refine gf_X9_16 rfl kp_0 dX9_restore_15 ?_
    obtain ⟨e18_0, K⟩ := K
    refine cl_X9_272 rfl kp_1 dX9_restore_18 (Nat.le_of_ble_eq_true rfl) (c_P_become kp_1 kp_6 e18_0) ?_
    rintro _ h18 ⟨rfl, f18⟩
    have K := K h18 f18
    refine td_eqs (st2 := []) rfl ?_
    refine td_aload_n 0 dX9_restore_21 rfl ?_
    refine cl_X9_68 rfl kp_0 dX9_restore_22 (Nat.le_of_ble_eq_true rfl) (c_X_forget) (eV_k ?_)
    refine td_eqs (st2 := []) rfl ?_
    refine td_iconst (v := 1) dX9_restore_25 (by decide) ?_
    exact td_ireturn rfl dX9_restore_26 K
  · have K := Kf q4
    refine td_bipush (v := (-4)) dX9_restore_7 (by decide) ?_
    exact td_ireturn rfl dX9_restore_9 K
theorem D_restore {G : td_G} {d : Nat} {h : td_H} {s : gS} (I : DI s h) : (∀ g2, s.2.1 = some g2 → td_C G (d + 2) mX9_restore [.ref 0] h (dPost 1 (g2, s.2) h)) ∧ (s.2.1 = none → td_C G (d + 2) mX9_restore [.ref 0] h (dPost (-4) s h)) := by
  refine ⟨fun g2 e2 => ?_, fun e2 => ?_⟩
  · have k : kpD (some g2) h := by have z := I.1.2.2.1; rw [e2] at z; exact z
    refine td_entry rfl (Nat.le_of_ble_eq_true rfl) rfl (gX9_restore_0 ⟨fun _ => ⟨by decide, fun h2 hh => ?_⟩, fun y => ?_⟩)
    · obtain ⟨I2, F2⟩ := I.plan (h1 := h2) g2 k.2.2 (hh.2 g2 k.2.1) (fun a b z => hh.1 a b (by omega))
      exact ⟨rfl, I2, F2⟩
    · rw [k.1] at y; exact absurd y (by decide)
  · have k : kpD none h := by have z := I.1.2.2.1; rw [e2] at z; exact z
    exact td_entry rfl (Nat.le_of_ble_eq_true rfl) rfl (gX9_restore_0 ⟨fun y => absurd k y, fun _ => ⟨rfl, I, FM.rf h⟩⟩)
/-! sheets -/
theorem DI.sh {s : gS} {h h1 : td_H} (x : DI s h) (S' : Nat → Nat → Int32) (hS : shD S' h1) (hW : shW S') (e : ∀ a b, ¬ (77 ≤ a ∧ a ≤ 84) → h1 a b = h a b) : DI (s.1, s.2.1, s.2.2.1, S') h1 ∧ FM h h1 := by
  obtain ⟨⟨a1, a2, a3, a4, a5, a6, a7, a8⟩, c1, c2, c3, c4, c5⟩ := x
  exact ⟨⟨⟨a1.fr (fun a b _ _ => e a b (by omega)), a2, a3.fr (e _ _ (by omega)) (fun a b _ _ => e a b (by omega)), a4.fr (fun a b z => e a b (by omega)), hS, hW, a7.fr (fun a b _ _ => e a b (by omega)), a8.fr (fun a b _ _ => e a b (by omega))⟩, c1F c1 (fun a b r => e a b (by omega)), c2F c2 (fun a b r => e a b (by omega)), c3F c3 (fun a b r => e a b (by omega)), c4F c4 (fun a b r => e a b (by omega)), c5F c5 (fun a b r => e a b (by omega))⟩, fun a b z => e a b (by omega)⟩
def shN (S : Nat → Nat → Int32) (k : Nat) (l n : Int32) : Nat → Nat → Int32 := fun a b => if a = k then (if b = 0 then l else if b = 1 then n else 0) else S a b
def shX (S : Nat → Nat → Int32) (k : Nat) : Nat → Nat → Int32 := fun a b => if a = k ∧ b = 0 then -1 else S a b
set_option maxRecDepth 20000 in
set_option maxHeartbeats 4000000 in
theorem gX9_sheet_0 {G : td_G} {d : Nat} {Post : td_P} {x1 x2 x3 : Int32} {h : td_H} (K : ((b2i (0 ≤ x1 ∧ x1 < 4)) = 0 → (Post (some (.int (-1))) h)) ∧ (¬ (b2i (0 ≤ x1 ∧ x1 < 4)) = 0 → (((b2i (0 ≤ x2 ∧ x2 < 3)) = 0 → (Post (some (.int (-1))) h)) ∧ (¬ (b2i (0 ≤ x2 ∧ x2 < 3)) = 0 → ((x3 ≤ 16 → ((0 ≤ x3 → (vp_in x1 4 ∧ (Post (some (.int x3)) (fillH (hu (hu h (77 + 2 * ix x1) 1 x2) (77 + 2 * ix x1) 2 x3) (77 + 2 * ix x1 + 1) 16 0)))) ∧ (¬ 0 ≤ x3 → (Post (some (.int (-14))) h)))) ∧ (¬ x3 ≤ 16 → (Post (some (.int (-1))) h))))))) : td_J G (d + 1) mX9_sheet Post 0 [(0, .ref 0), (1, .int x1), (2, .int x2), (3, .int x3)] [] h := by
  refine td_iload_n 1 dX9_sheet_0 rfl ?_
  refine td_iconst (v := 4) dX9_sheet_1 (by decide) ?_
  refine cl_X9_54 rfl dX9_sheet_2 (Nat.le_of_ble_eq_true rfl) (c_isIn x1 4) (eR_k ?_)
  refine td_eqs (st2 := [.int (b2i (0 ≤ x1 ∧ x1 < 4))]) rfl ?_
  obtain ⟨Kt, Kf⟩ := K
  refine td_if_eq (tgt := 22) dX9_sheet_5 (by decide) (fun q5 => ?_) (fun q5 => ?_)
  · have K := Kt q5
    refine td_iconst (v := (-1)) dX9_sheet_22 (by decide) ?_
    exact td_ireturn rfl dX9_sheet_23 K
  · have K := Kf q5
    refine td_iload_n 2 dX9_sheet_8 rfl ?_
    refine td_iconst (v := 3) dX9_sheet_9 (by decide) ?_
    refine cl_X9_54 rfl dX9_sheet_10 (Nat.le_of_ble_eq_true rfl) (c_isIn x2 3) (eR_k ?_)
    refine td_eqs (st2 := [.int (b2i (0 ≤ x2 ∧ x2 < 3))]) rfl ?_
    obtain ⟨Kt, Kf⟩ := K
    refine td_if_eq (tgt := 22) dX9_sheet_13 (by decide) (fun q13 => ?_) (fun q13 => ?_)
    · have K := Kt q13
      refine td_iconst (v := (-1)) dX9_sheet_22 (by decide) ?_
      exact td_ireturn rfl dX9_sheet_23 K
    · have K := Kf q13
      refine td_iload_n 3 dX9_sheet_16 rfl ?_
      refine td_bipush (v := 16) dX9_sheet_17 (by decide) ?_
      obtain ⟨Kt, Kf⟩ := K
      refine td_icmp_le (tgt := 24) dX9_sheet_19 (by decide) (fun q19 => ?_) (fun q19 => ?_)
      · have K := Kt q19
        refine td_iload_n 3 dX9_sheet_24 rfl ?_
        obtain ⟨Kt, Kf⟩ := K
        refine td_if_ge (tgt := 31) dX9_sheet_25 (by decide) (fun q25 => ?_) (fun q25 => ?_)
        · have K := Kt q25
          refine td_aload_n 0 dX9_sheet_31 rfl ?_
          refine gf_X9_28 rfl kp_0 dX9_sheet_32 ?_
          refine td_iload_n 1 dX9_sheet_35 rfl ?_
          obtain ⟨e36, K⟩ := K
          refine td_aald e36 dX9_sheet_36 ?_
          refine td_iload_n 2 dX9_sheet_37 rfl ?_
          refine td_iload_n 3 dX9_sheet_38 rfl ?_
          refine cl_X9_279 rfl (kd_sh e36) dX9_sheet_39 (Nat.le_of_ble_eq_true rfl) (c_S_renew (kd_sh e36) x2 x3) (eV_k ?_)
          refine td_eqs (st2 := []) rfl ?_
          refine td_iload_n 3 dX9_sheet_42 rfl ?_
          exact td_ireturn rfl dX9_sheet_43 K
        · have K := Kf q25
          refine td_bipush (v := (-14)) dX9_sheet_28 (by decide) ?_
          exact td_ireturn rfl dX9_sheet_30 K
      · have K := Kf q19
        refine td_iconst (v := (-1)) dX9_sheet_22 (by decide) ?_
        exact td_ireturn rfl dX9_sheet_23 K
def okSh (x1 x2 x3 : Int32) : Prop := (0 ≤ x1 ∧ x1 < 4) ∧ (0 ≤ x2 ∧ x2 < 3) ∧ x3 ≤ 16
theorem le16 {x : Int32} (h0 : 0 ≤ x) (h : x ≤ 16) : ∃ n, n ≤ 16 ∧ x = nI n := by
  obtain ⟨e, hb⟩ := nn_of h0
  rw [e] at h
  exact ⟨ix x, le_of (b := 16) h, e⟩
theorem D_sheet {G : td_G} {d : Nat} {h : td_H} {s : gS} (x1 x2 x3 : Int32) (I : DI s h) : (okSh x1 x2 x3 → 0 ≤ x3 → td_C G (d + 1) mX9_sheet [.ref 0, .int x1, .int x2, .int x3] h (dPost x3 (s.1, s.2.1, s.2.2.1, shN s.2.2.2 (ix x1) x2 x3) h)) ∧ (okSh x1 x2 x3 → ¬ 0 ≤ x3 → td_C G (d + 1) mX9_sheet [.ref 0, .int x1, .int x2, .int x3] h (dPost (-14) s h)) ∧ (¬ okSh x1 x2 x3 → td_C G (d + 1) mX9_sheet [.ref 0, .int x1, .int x2, .int x3] h (dPost (-1) s h)) := by
  have bad : (some (Value.int (-1)) = some (.int (-1)) ∧ DI s h ∧ FM h h) := ⟨rfl, I, FM.rf h⟩
  refine ⟨fun ok h0 => ?_, fun ok h0 => ?_, fun nk => ?_⟩
  · obtain ⟨o1, o2, o3⟩ := ok
    obtain ⟨k, hk, rfl⟩ := in_n (n := 4) (by decide) o1
    have ek : ix (nI k) = k := ixn (by omega)
    refine td_entry rfl (Nat.le_of_ble_eq_true rfl) rfl (gX9_sheet_0 ⟨fun y => absurd o1 (bz y), fun _ => ⟨fun y => absurd o2 (bz y), fun _ => ⟨fun _ => ⟨fun _ => ⟨vp_in_nI hk (by decide), rfl, ?_⟩, fun y => absurd h0 y⟩, fun y => absurd o3 y⟩⟩⟩)
    rw [ek]
    obtain ⟨n, hn, rfl⟩ := le16 h0 o3
    have v3 : vp_in x2 3 := (is_in (n := 3) (by decide)).mp o2
    refine I.sh _ (fun j hj => ?_) (fun j hj => ?_) (fun a b z => ?_)
    · obtain ⟨b1, b2, b3⟩ := I.1.2.2.2.2.1 j hj
      unfold fillH shN
      by_cases e : j = k
      · subst e
        refine ⟨?_, ?_, fun i hi => ?_⟩
        · rw [if_neg (by omega), hu_app, if_neg (by omega), hu_app, if_pos ⟨rfl, rfl⟩, if_pos rfl, if_pos rfl]
        · rw [if_neg (by omega), hu_app, if_pos ⟨rfl, rfl⟩, if_pos rfl, if_neg (by decide), if_pos rfl]
        · rw [if_pos ⟨rfl, hi⟩, if_pos rfl, if_neg (by omega), if_neg (by omega)]
      · refine ⟨?_, ?_, fun i hi => ?_⟩
        · rw [if_neg (by omega), hu_app, if_neg (by omega), hu_app, if_neg (by omega), if_neg e]; exact b1
        · rw [if_neg (by omega), hu_app, if_neg (by omega), hu_app, if_neg (by omega), if_neg e]; exact b2
        · rw [if_neg (by omega), hu_app, if_neg (by omega), hu_app, if_neg (by omega), if_neg e]; exact b3 i hi
    · unfold shN
      by_cases e : j = k
      · rw [if_pos e, if_pos e, if_pos rfl, if_neg (by decide), if_pos rfl]
        exact ⟨Or.inr v3, n, hn, rfl⟩
      · rw [if_neg e, if_neg e]; exact I.1.2.2.2.2.2.1 j hj
    · unfold fillH
      rw [if_neg (by omega), hu_app, if_neg (by omega), hu_app, if_neg (by omega)]
  · obtain ⟨o1, o2, o3⟩ := ok
    exact td_entry rfl (Nat.le_of_ble_eq_true rfl) rfl (gX9_sheet_0 ⟨fun y => absurd o1 (bz y), fun _ => ⟨fun y => absurd o2 (bz y), fun _ => ⟨fun _ => ⟨fun y => absurd y h0, fun _ => ⟨rfl, I, FM.rf h⟩⟩, fun y => absurd o3 y⟩⟩⟩)
  · refine td_entry rfl (Nat.le_of_ble_eq_true rfl) rfl (gX9_sheet_0 ⟨fun _ => bad, fun y => ⟨fun _ => bad, fun z => ⟨fun w => absurd ⟨bnz y, bnz z, w⟩ nk, fun _ => bad⟩⟩⟩)
set_option maxRecDepth 20000 in
set_option maxHeartbeats 4000000 in
theorem gX9_drop_0 {G : td_G} {d : Nat} {Post : td_P} {x1 : Int32} {h : td_H} (K : (¬ (b2i (0 ≤ x1 ∧ x1 < 4)) = 0 → (vp_in x1 4 ∧ ((¬ (if h (77 + 2 * ix x1) 1 = (-1) then 0 else 1 : Int32) = 0 → (vp_in x1 4 ∧ (Post (some (.int (h (77 + 2 * ix x1) 2))) (hu h (77 + 2 * ix x1) 1 (-1))))) ∧ ((if h (77 + 2 * ix x1) 1 = (-1) then 0 else 1 : Int32) = 0 → (Post (some (.int (-11))) h))))) ∧ ((b2i (0 ≤ x1 ∧ x1 < 4)) = 0 → (Post (some (.int (-1))) h))) : td_J G (d + 1) mX9_drop Post 0 [(0, .ref 0), (1, .int x1)] [] h := by
  refine td_iload_n 1 dX9_drop_0 rfl ?_
  refine td_iconst (v := 4) dX9_drop_1 (by decide) ?_
  refine cl_X9_54 rfl dX9_drop_2 (Nat.le_of_ble_eq_true rfl) (c_isIn x1 4) (eR_k ?_)
  refine td_eqs (st2 := [.int (b2i (0 ≤ x1 ∧ x1 < 4))]) rfl ?_
  obtain ⟨Kt, Kf⟩ := K
  refine td_if_ne (tgt := 10) dX9_drop_5 (by decide) (fun q5 => ?_) (fun q5 => ?_)
  · have K := Kt q5
    refine td_aload_n 0 dX9_drop_10 rfl ?_
    refine gf_X9_28 rfl kp_0 dX9_drop_11 ?_
    refine td_iload_n 1 dX9_drop_14 rfl ?_
    obtain ⟨e15, K⟩ := K
    refine td_aald e15 dX9_drop_15 ?_
    refine cl_X9_283 rfl (kd_sh e15) dX9_drop_16 (Nat.le_of_ble_eq_true rfl) (c_S_isThere (kd_sh e15)) (eR_k ?_)
    refine td_eqs (st2 := [.int (if h (77 + 2 * ix x1) 1 = (-1) then 0 else 1 : Int32)]) rfl ?_
    obtain ⟨Kt, Kf⟩ := K
    refine td_if_ne (tgt := 25) dX9_drop_19 (by decide) (fun q19 => ?_) (fun q19 => ?_)
    · have K := Kt q19
      refine td_aload_n 0 dX9_drop_25 rfl ?_
      refine gf_X9_28 rfl kp_0 dX9_drop_26 ?_
      refine td_iload_n 1 dX9_drop_29 rfl ?_
      obtain ⟨e30, K⟩ := K
      refine td_aald e30 dX9_drop_30 ?_
      refine cl_X9_287 rfl (kd_sh e30) dX9_drop_31 (Nat.le_of_ble_eq_true rfl) (c_S_leave (kd_sh e30)) (eR_k ?_)
      refine td_eqs (st2 := [.int (h (77 + 2 * ix x1) 2)]) rfl ?_
      exact td_ireturn rfl dX9_drop_34 K
    · have K := Kf q19
      refine td_bipush (v := (-11)) dX9_drop_22 (by decide) ?_
      exact td_ireturn rfl dX9_drop_24 K
  · have K := Kf q5
    refine td_iconst (v := (-1)) dX9_drop_8 (by decide) ?_
    exact td_ireturn rfl dX9_drop_9 K
theorem D_drop {G : td_G} {d : Nat} {h : td_H} {s : gS} (x1 : Int32) (I : DI s h) : ((0 ≤ x1 ∧ x1 < 4) → ¬ s.2.2.2 (ix x1) 0 = -1 → td_C G (d + 1) mX9_drop [.ref 0, .int x1] h (dPost (s.2.2.2 (ix x1) 1) (s.1, s.2.1, s.2.2.1, shX s.2.2.2 (ix x1)) h)) ∧ ((0 ≤ x1 ∧ x1 < 4) → s.2.2.2 (ix x1) 0 = -1 → td_C G (d + 1) mX9_drop [.ref 0, .int x1] h (dPost (-11) s h)) ∧ (¬ (0 ≤ x1 ∧ x1 < 4) → td_C G (d + 1) mX9_drop [.ref 0, .int x1] h (dPost (-1) s h)) := by
  refine ⟨fun ok h0 => ?_, fun ok h0 => ?_, fun nk => ?_⟩
  · obtain ⟨k, hk, rfl⟩ := in_n (n := 4) (by decide) ok
    have ek : ix (nI k) = k := ixn (by omega)
    obtain ⟨q1, q2, q3⟩ := I.1.2.2.2.2.1 k hk
    rw [ek] at h0 ⊢
    refine td_entry rfl (Nat.le_of_ble_eq_true rfl) rfl (gX9_drop_0 ⟨fun _ => ⟨vp_in_nI hk (by decide), ?_⟩, fun y => absurd ok (bz y)⟩)
    rw [ek, q1, q2, if_neg h0]
    refine ⟨fun _ => ⟨vp_in_nI hk (by decide), rfl, ?_⟩, fun y => absurd y (by decide)⟩
    refine I.sh _ (fun j hj => ?_) (fun j hj => ?_) (fun a b z => ?_)
    · obtain ⟨b1, b2, b3⟩ := I.1.2.2.2.2.1 j hj
      unfold shX
      by_cases e : j = k
      · subst e
        refine ⟨?_, ?_, fun i hi => ?_⟩
        · rw [hu_app, if_pos ⟨rfl, rfl⟩, if_pos ⟨rfl, rfl⟩]
        · rw [hu_app, if_neg (by omega), if_neg (by omega)]; exact b2
        · rw [hu_app, if_neg (by omega), if_neg (by omega)]; exact b3 i hi
      · refine ⟨?_, ?_, fun i hi => ?_⟩
        · rw [hu_app, if_neg (by omega), if_neg (fun z => e z.1)]; exact b1
        · rw [hu_app, if_neg (by omega), if_neg (fun z => e z.1)]; exact b2
        · rw [hu_app, if_neg (by omega), if_neg (fun z => e z.1)]; exact b3 i hi
    · obtain ⟨w1, w2⟩ := I.1.2.2.2.2.2.1 j hj
      unfold shX
      refine ⟨?_, by rw [if_neg (fun z => absurd z.2 (by decide))]; exact w2⟩
      by_cases e : j = k
      · rw [if_pos ⟨e, rfl⟩]; exact Or.inl rfl
      · rw [if_neg (fun z => e z.1)]; exact w1
    · rw [hu_app, if_neg (by omega)]
  · obtain ⟨k, hk, rfl⟩ := in_n (n := 4) (by decide) ok
    have ek : ix (nI k) = k := ixn (by omega)
    obtain ⟨q1, q2, q3⟩ := I.1.2.2.2.2.1 k hk
    rw [ek] at h0
    refine td_entry rfl (Nat.le_of_ble_eq_true rfl) rfl (gX9_drop_0 ⟨fun _ => ⟨vp_in_nI hk (by decide), ?_⟩, fun y => absurd ok (bz y)⟩)
    rw [ek, q1, if_pos h0]
    exact ⟨fun y => absurd rfl y, fun _ => ⟨rfl, I, FM.rf h⟩⟩
  · exact td_entry rfl (Nat.le_of_ble_eq_true rfl) rfl (gX9_drop_0 ⟨fun y => absurd (bnz y) nk, fun _ => ⟨rfl, I, FM.rf h⟩⟩)
/-! why a row can't be had -/
def rfI (ln sz l f n : Int32) : Int32 := if ln = -1 then -11 else if ln = l then (if f < 0 then -13 else if f ≤ sz - n then 0 else -13) else -12
theorem c_S_refusal {G : td_G} {d : Nat} {h : td_H} {k : Nat} (hk : td_kd k = 6) (x1 x2 x3 : Int32) : td_C G (d + 1) mX6_refusalFor [.ref k, .int x1, .int x2, .int x3] h (eR (rfI (h k 1) (h k 2) x1 x2 x3) h) := by
  refine td_entry rfl (Nat.le_of_ble_eq_true rfl) rfl (gX6_refusalFor_0 hk ?_)
  unfold rfI
  by_cases z : h k 1 = -1
  · rw [if_pos z, if_pos z]
    exact ⟨fun y => absurd rfl y, fun _ => ⟨rfl, rfl⟩⟩
  · rw [if_neg z, if_neg z]
    refine ⟨fun _ => ⟨fun y => ⟨?_, rfl⟩, fun y => ⟨?_, rfl⟩⟩, fun y => absurd y (by decide)⟩
    · rw [if_pos y]
    · rw [if_neg y]
/-- none: it is a row of that lane, and they lie in it -/
theorem rfI_0 {ln sz l f n : Int32} : rfI ln sz l f n = 0 ↔ ln ≠ -1 ∧ ln = l ∧ ¬ f < 0 ∧ f ≤ sz - n := by
  unfold rfI
  constructor
  · intro h
    by_cases z : ln = -1
    · rw [if_pos z] at h; exact absurd h (by decide)
    · rw [if_neg z] at h
      by_cases y : ln = l
      · rw [if_pos y] at h
        by_cases x : f < 0
        · rw [if_pos x] at h; exact absurd h (by decide)
        · rw [if_neg x] at h
          by_cases w : f ≤ sz - n
          · exact ⟨z, y, x, w⟩
          · rw [if_neg w] at h; exact absurd h (by decide)
      · rw [if_neg y] at h; exact absurd h (by decide)
  · rintro ⟨a, b, c, e⟩
    rw [if_neg a, if_pos b, if_neg c, if_pos e]
theorem rf_in {ln l f : Int32} {N n : Nat} (hN : N ≤ 16) (hn : n ≤ 16) (h : rfI ln (nI N) l f (nI n) = 0) : ∃ k, f = nI k ∧ k + n ≤ N := by
  obtain ⟨-, -, h1, h2⟩ := rfI_0.mp h
  obtain ⟨e, hb⟩ := nn_of (fa_of_nlt h1)
  refine ⟨ix f, e, ?_⟩
  rw [e, fa_le, nI_toInt (by omega)] at h2
  have e2 : (nI N - nI n).toInt = (N : Int) - n := by
    have t : ∀ N, N < 17 → ∀ n, n < 17 → (nI N - nI n).toInt = (N : Int) - n := by decide +kernel
    exact t N (by omega) n (by omega)
  rw [e2] at h2
  omega
