/-! Door: trials -/
def dQE (c : nH) (k q : Nat) (h : td_H) : Prop := ∃ Q, dQ c Q k q h
theorem dQE.kn {c : nH} {k q : Nat} {h h' : td_H} (x : dQE c k q h) (f : FrD k h h') : dKn (k + 1) h' := by
  obtain ⟨Q, hQ⟩ := x
  exact (f.Q hQ).kn
theorem c_C_run' {G : td_G} {d : Nat} {h : td_H} {k q : Nat} {c : nH} (x1 x2 : Int32) (hQ : dQE c k q h) (hV : dV c s0 k h) (h1 : vp_in x1 121) : td_C G (d + 5) mX0_run [.ref k, .int x1, .int x2] h (fun r h' => r = none ∧ FrD k h h' ∧ dRun c (min (ix x1 + 1) 120) x2 k h') := by
  obtain ⟨Q, hQ⟩ := hQ
  exact c_C_run x1 x2 hQ hV h1
def lastE (c : nH) : Nat := mxN (fun p => sRun c 120 3 p) (c 1 0)
theorem end_le {c : nH} (hn : c 1 0 ≤ 12) {p : Nat} (hp : p < c 1 0) : sRun c 120 3 p ≤ 120 := by
  obtain ⟨a, b, -⟩ := run_t c hn 120 p hp
  by_cases z : sRun c 120 0 p = 3
  · have := a z; omega
  · have := b z; omega
theorem lastE_le {c : nH} (hn : c 1 0 ≤ 12) : lastE c ≤ 120 := by
  have := mxN_lt (f := fun p => sRun c 120 3 p) (b := 121) (by decide) (n := c 1 0) (fun p hp => by have := end_le hn hp; show sRun c 120 3 p < 121; omega)
  unfold lastE
  omega
/-- how a run that was not cut stands: as the full one, but for those at rest -/
theorem dRun.ends {c : nH} {b : Int32} {k : Nat} {h : td_H} (x : dRun c 120 b k h) (h5 : 12 ≤ c 5 0) (hn : c 1 0 ≤ 12) {p : Nat} (hp : p < c 1 0) : h (k + 10) p = nI (sRun c 120 3 p) ∧ h (k + 9) p = nI (qE c (sRun c 120) p) := by
  obtain ⟨T, hT, V, hc⟩ := x
  have e1 := (V.2.2.2.2.2.2.2 p (by omega)).2.2.1
  have e2 := (V.2.2.2.2.2.2.2 p (by omega)).2.1
  rcases hc with z | ⟨-, z⟩
  · rw [z] at e1 e2; exact ⟨e1, e2⟩
  · have y := run_stays c hn hp (t := T) (Or.inl (z p hp (by omega))) (120 - T)
    rw [show T + (120 - T) = 120 by omega] at y
    rw [e1, e2]
    unfold qE
    rw [y.1, y.2.2.1, y.2.2.2]
    exact ⟨rfl, rfl⟩
theorem dRun.full {c : nH} {k : Nat} {h : td_H} (x : dRun c 120 0 k h) : dV c (sRun c 120) k h := by
  obtain ⟨T, hT, V, hc⟩ := x
  rcases hc with z | ⟨y, -⟩
  · rw [z] at V; exact V
  · exact absurd rfl y
theorem FrQ.P {c : nH} {q q2 : Nat} {h h1 : td_H} (x : FrQ q h h1) (hs : q2 + 4 < q ∨ q + 4 < q2) (hc : dP c q2 h) : dP c q2 h1 := by
  obtain ⟨w, a1, a2, a3⟩ := hc
  refine ⟨w, fun i hi => ?_, ?_, fun p hp => ?_⟩
  · rw [x (q2 + 1) i (by omega)]; exact a1 i hi
  · rw [x q2 4 (by omega)]; exact a2
  · rw [x (q2 + 2) p (by omega), x (q2 + 3) p (by omega), x (q2 + 4) p (by omega)]
    exact a3 p hp
def wfS (c : nH) : Prop := (3 ≤ c 0 0 ∧ c 0 0 ≤ 4) ∧ (1 ≤ c 0 1 ∧ c 0 1 ≤ 3) ∧ (1 ≤ c 0 2 ∧ c 0 2 ≤ 6) ∧ c 0 3 ≤ 20 ∧ (1 ≤ c 0 4 ∧ c 0 4 ≤ 9) ∧ (1 ≤ c 0 5 ∧ c 0 5 ≤ 3) ∧ c 0 6 ≤ 9 ∧ (1 ≤ c 0 7 ∧ c 0 7 ≤ 9) ∧ c 0 8 ≤ 120
theorem wfC.of {c c' : nH} (x : wfC c) (hs : wfS c') (e : ∀ a b, 1 ≤ a → a ≤ 4 → c' a b = c a b) : wfC c' := by
  obtain ⟨-, -, -, -, -, -, -, -, -, a9, a10⟩ := x
  obtain ⟨b0, b1, b2, b3, b4, b5, b6, b7, b8⟩ := hs
  refine ⟨b0, b1, b2, b3, b4, b5, b6, b7, b8, by rw [e 1 0 (by decide) (by decide)]; exact a9, fun p hp => ?_⟩
  rw [e 1 0 (by decide) (by decide)] at hp
  rw [e 2 p (by decide) (by decide), e 3 p (by decide) (by decide), e 4 p (by decide) (by decide)]
  exact a10 p hp
theorem wfC.S {c : nH} (x : wfC c) : wfS c := ⟨x.1, x.2.1, x.2.2.1, x.2.2.2.1, x.2.2.2.2.1, x.2.2.2.2.2.1, x.2.2.2.2.2.2.1, x.2.2.2.2.2.2.2.1, x.2.2.2.2.2.2.2.2.1⟩
/-- a plan with other settings -/
theorem dP.sets {c c' : nH} {q : Nat} {h h' : td_H} (x : dP c q h) (hs : wfS c') (e : ∀ a b, 1 ≤ a → a ≤ 4 → c' a b = c a b) (e1 : ∀ i, i < 9 → h' (q + 1) i = nI (c' 0 i)) (eo : ∀ a b, a ≠ q + 1 → h' a b = h a b) : dP c' q h' := by
  obtain ⟨w, a1, a2, a3⟩ := x
  refine ⟨w.of hs e, e1, ?_, fun p hp => ?_⟩
  · rw [eo _ _ (by omega), e 1 0 (by decide) (by decide)]; exact a2
  · rw [e 1 0 (by decide) (by decide)] at hp
    rw [eo _ _ (by omega), eo _ _ (by omega), eo _ _ (by omega), e 2 p (by decide) (by decide), e 3 p (by decide) (by decide), e 4 p (by decide) (by decide)]
    exact a3 p hp
def cfgM (g : nH) (m : Nat) : nH := nu g 0 3 m
theorem cfgM_o (g : nH) (m a b : Nat) (h : a ≠ 0) : cfgM g m a b = g a b := by unfold cfgM; rw [nu_app, if_neg (fun z => h z.1)]
theorem cfgM_s {g : nH} (x : wfC g) {m : Nat} (hm : m ≤ 20) : wfS (cfgM g m) := by
  obtain ⟨b0, b1, b2, b3, b4, b5, b6, b7, b8⟩ := x.S
  unfold wfS cfgM
  simp only [nu_app]
  simp
  omega
set_option maxRecDepth 20000 in
set_option maxHeartbeats 4000000 in
theorem gX8_leastMotor_0 {G : td_G} {d : Nat} {Post : td_P} {k1 : Nat} {x2 : Int32} {h : td_H} (hk1 : td_kd k1 = 5) (K : td_J G (d + 6) mX8_leastMotor Post 2 [(0, .ref 43), (1, .ref k1), (2, .int x2), (3, .int 0)] [] h) : td_J G (d + 6) mX8_leastMotor Post 0 [(0, .ref 43), (1, .ref k1), (2, .int x2)] [] h := by
  refine td_iconst (v := 0) dX8_leastMotor_0 (by decide) ?_
  refine td_istore_n (lv2 := [(0, .ref 43), (1, .ref k1), (2, .int x2), (3, .int 0)]) dX8_leastMotor_1 (by decide) rfl ?_
  exact K
set_option maxRecDepth 20000 in
set_option maxHeartbeats 4000000 in
theorem gX8_leastMotor_2 {G : td_G} {d : Nat} {Post : td_P} {n q : Nat} {f : Nat → Nat} {c : nH} {k1 : Nat} {x2 x3 : Int32} {h : td_H} (hk1 : td_kd k1 = 5) (K : (21 ≤ x3 → (Post (some (.int (-4))) h)) ∧ (¬ 21 ≤ x3 → ((x3 < (h 43 7) → (vp_in x3 21 ∧ ((x2 < (h 73 (ix x3)) → td_J G (d + 6) mX8_leastMotor Post 2 [(0, .ref 43), (1, .ref k1), (2, .int x2), (3, .int (x3 + 1))] [] h) ∧ (¬ x2 < (h 73 (ix x3)) → (Post (some (.int x3)) h))))) ∧ (¬ x3 < (h 43 7) → ((44 + 4 < k1 ∨ k1 + 4 < 44) ∧ (∀ h21 : td_H, (FrQ (44) h h21 ∧ ∀ c, dP c (k1) h → dP c (44) h21) → (44 + 4 < 49 ∧ dP c (44) (hu h21 45 3 x3) ∧ dKn (49 + 1) (hu h21 45 3 x3) ∧ ((jshl 1 ((hu h21 45 3 x3) 44 4)) - 1) = ms (comM c) ∧ (∀ h49 : td_H, (FrC (49) (hu h21 45 3 x3) h49 ∧ ∃ Q, dQ c Q (49) (44) h49 ∧ dV c s0 (49) h49) → (dQE c (49) q h49 ∧ dV c s0 (49) h49 ∧ vp_in 119 121 ∧ (∀ h59 : td_H, (FrD (49) h49 h59 ∧ dRun c (min (ix 119 + 1) 120) 1 (49) h59) → ((h59 44 4) = nI n ∧ n ≤ 12 ∧ (∀ p, p < n → h59 (56 + 3) p = nI (f p) ∧ f p ≤ 120) ∧ (vp_in x3 21 ∧ (∀ H84 : td_H, H84 = hu h59 73 (ix x3) (nI (mxN f n)) → ((x2 < ((hu H84 43 7 (x3 + 1)) 73 (ix x3)) → td_J G (d + 6) mX8_leastMotor Post 2 [(0, .ref 43), (1, .ref k1), (2, .int x2), (3, .int (x3 + 1))] [] (hu H84 43 7 (x3 + 1))) ∧ (¬ x2 < ((hu H84 43 7 (x3 + 1)) 73 (ix x3)) → (Post (some (.int x3)) (hu H84 43 7 (x3 + 1)))))))))))))))))) : td_J G (d + 6) mX8_leastMotor Post 2 [(0, .ref 43), (1, .ref k1), (2, .int x2), (3, .int x3)] [] h := by
  refine td_iload_n 3 dX8_leastMotor_2 rfl ?_
  refine td_bipush (v := 21) dX8_leastMotor_3 (by decide) ?_
  obtain ⟨Kt, Kf⟩ := K
  refine td_icmp_ge (tgt := 110) dX8_leastMotor_5 (by decide) (fun q5 => ?_) (fun q5 => ?_)
  · have K := Kt q5
    refine td_bipush (v := (-4)) dX8_leastMotor_110 (by decide) ?_
    exact td_ireturn rfl dX8_leastMotor_112 K
  · have K := Kf q5
    refine td_iload_n 3 dX8_leastMotor_8 rfl ?_
    refine td_aload_n 0 dX8_leastMotor_9 rfl ?_
    refine gf_X8_45 rfl kp_43 dX8_leastMotor_10 ?_
    obtain ⟨Kt, Kf⟩ := K
    refine td_icmp_lt (tgt := 92) dX8_leastMotor_13 (by decide) (fun q13 => ?_) (fun q13 => ?_)
    · have K := Kt q13
      refine td_aload_n 0 dX8_leastMotor_92 rfl ?_
      refine gf_X8_32 rfl kp_43 dX8_leastMotor_93 ?_
      refine td_iload_n 3 dX8_leastMotor_96 rfl ?_
      obtain ⟨e97, K⟩ := K
      refine td_ialdc (j := (ix x3)) kp_73 (by decide) e97 rfl dX8_leastMotor_97 ?_
      refine td_iload_n 2 dX8_leastMotor_98 rfl ?_
      obtain ⟨Kt, Kf⟩ := K
      refine td_icmp_gt (tgt := 104) dX8_leastMotor_99 (by decide) (fun q99 => ?_) (fun q99 => ?_)
      · have K := Kt q99
        refine td_iinc 3 (v := x3 + 1) (lv2 := [(0, .ref 43), (1, .ref k1), (2, .int x2), (3, .int (x3 + 1))]) dX8_leastMotor_104 rfl (congrArg (x3 + ·) (by decide)) (by decide) rfl ?_
        refine td_goto (tgt := 2) dX8_leastMotor_107 (by decide) ?_
        exact K
      · have K := Kf q99
        refine td_iload_n 3 dX8_leastMotor_102 rfl ?_
        exact td_ireturn rfl dX8_leastMotor_103 K
    · have K := Kf q13
      refine td_aload_n 0 dX8_leastMotor_16 rfl ?_
      refine gf_X8_12 rfl kp_43 dX8_leastMotor_17 ?_
      refine td_aload_n 1 dX8_leastMotor_20 rfl ?_
      obtain ⟨e21_0, K⟩ := K
      refine cl_X8_59 rfl kp_44 dX8_leastMotor_21 (Nat.le_of_ble_eq_true rfl) (c_P_become kp_44 hk1 e21_0) ?_
      rintro _ h21 ⟨rfl, f21⟩
      have K := K h21 f21
      refine td_eqs (st2 := []) rfl ?_
      refine td_aload_n 0 dX8_leastMotor_24 rfl ?_
      refine gf_X8_12 rfl kp_43 dX8_leastMotor_25 ?_
      refine gf_X8_63 rfl kp_44 dX8_leastMotor_28 ?_
      refine td_iconst (v := 3) dX8_leastMotor_31 (by decide) ?_
      refine td_iload_n 3 dX8_leastMotor_32 rfl ?_
      refine td_iastc (j := 3) kp_45 (by decide) (by unfold vp_in; decide) (by decide) dX8_leastMotor_33 ?_
      refine td_aload_n 0 dX8_leastMotor_34 rfl ?_
      refine gf_X8_21 rfl kp_43 dX8_leastMotor_35 ?_
      refine td_aload_n 0 dX8_leastMotor_38 rfl ?_
      refine gf_X8_12 rfl kp_43 dX8_leastMotor_39 ?_
      refine td_aload_n 0 dX8_leastMotor_42 rfl ?_
      refine gf_X8_12 rfl kp_43 dX8_leastMotor_43 ?_
      refine cl_X8_66 rfl kp_44 dX8_leastMotor_46 (Nat.le_of_ble_eq_true rfl) (c_P_everyone kp_44) (eR_k ?_)
      refine td_eqs (st2 := [.int ((jshl 1 ((hu h21 45 3 x3) 44 4)) - 1), .ref 44, .ref 49]) rfl ?_
      obtain ⟨e49_0, K⟩ := K
      obtain ⟨e49_1, K⟩ := K
      obtain ⟨e49_2, K⟩ := K
      obtain ⟨e49_3, K⟩ := K
      refine cl_X8_70 rfl kp_49 dX8_leastMotor_49 (Nat.le_of_ble_eq_true rfl) (c_C_begin kp_49 kp_44 ((jshl 1 ((hu h21 45 3 x3) 44 4)) - 1) e49_0 e49_1 e49_2 e49_3) ?_
      rintro _ h49 ⟨rfl, f49⟩
      have K := K h49 f49
      refine td_eqs (st2 := []) rfl ?_
      refine td_aload_n 0 dX8_leastMotor_52 rfl ?_
      refine gf_X8_21 rfl kp_43 dX8_leastMotor_53 ?_
      refine td_bipush (v := 119) dX8_leastMotor_56 (by decide) ?_
      refine td_iconst (v := 1) dX8_leastMotor_58 (by decide) ?_
      obtain ⟨e59_0, K⟩ := K
      obtain ⟨e59_1, K⟩ := K
      obtain ⟨e59_2, K⟩ := K
      refine cl_X8_74 rfl kp_49 dX8_leastMotor_59 (Nat.le_of_ble_eq_true rfl) (c_C_run' 119 1 e59_0 e59_1 e59_2) ?_
      rintro _ h59 ⟨rfl, f59⟩
      have K := K h59 f59
      refine td_eqs (st2 := []) rfl ?_
      refine td_aload_n 0 dX8_leastMotor_62 rfl ?_
      refine gf_X8_32 rfl kp_43 dX8_leastMotor_63 ?_
      refine td_iload_n 3 dX8_leastMotor_66 rfl ?_
      refine td_aload_n 0 dX8_leastMotor_67 rfl ?_
      refine gf_X8_21 rfl kp_43 dX8_leastMotor_68 ?_
      refine gf_X8_78 rfl kp_49 dX8_leastMotor_71 ?_
      refine td_aload_n 0 dX8_leastMotor_74 rfl ?_
      refine gf_X8_12 rfl kp_43 dX8_leastMotor_75 ?_
      refine gf_X8_82 rfl kp_44 dX8_leastMotor_78 ?_
      obtain ⟨e81_0, K⟩ := K
      obtain ⟨e81_1, K⟩ := K
      obtain ⟨e81_2, K⟩ := K
      refine cl_X8_85 rfl kp_56 dX8_leastMotor_81 (Nat.le_of_ble_eq_true rfl) (c_F_last kp_56 f n (h59 44 4) e81_0 e81_1 e81_2) (eR_k ?_)
      refine td_eqs (st2 := [.int (nI (mxN f n)), .int x3, .ref 73]) rfl ?_
      obtain ⟨e84, K⟩ := K
      refine td_iastc (j := (ix x3)) kp_73 (by decide) e84 rfl dX8_leastMotor_84 ?_
      obtain ⟨H84, E84⟩ : ∃ z : td_H, z = hu h59 73 (ix x3) (nI (mxN f n)) := ⟨_, rfl⟩
      have K := K H84 E84
      refine td_eqh E84 ?_
      refine td_aload_n 0 dX8_leastMotor_85 rfl ?_
      refine td_iload_n 3 dX8_leastMotor_86 rfl ?_
      refine td_iconst (v := 1) dX8_leastMotor_87 (by decide) ?_
      refine td_iadd dX8_leastMotor_88 ?_
      refine pf_X8_45 rfl kp_43 dX8_leastMotor_89 ?_
      refine td_aload_n 0 dX8_leastMotor_92 rfl ?_
      refine gf_X8_32 rfl kp_43 dX8_leastMotor_93 ?_
      refine td_iload_n 3 dX8_leastMotor_96 rfl ?_
      refine td_ialdc (j := (ix x3)) kp_73 (by decide) e84 rfl dX8_leastMotor_97 ?_
      refine td_iload_n 2 dX8_leastMotor_98 rfl ?_
      obtain ⟨Kt, Kf⟩ := K
      refine td_icmp_gt (tgt := 104) dX8_leastMotor_99 (by decide) (fun q99 => ?_) (fun q99 => ?_)
      · have K := Kt q99
        refine td_iinc 3 (v := x3 + 1) (lv2 := [(0, .ref 43), (1, .ref k1), (2, .int x2), (3, .int (x3 + 1))]) dX8_leastMotor_104 rfl (congrArg (x3 + ·) (by decide)) (by decide) rfl ?_
        refine td_goto (tgt := 2) dX8_leastMotor_107 (by decide) ?_
        exact K
      · have K := Kf q99
        refine td_iload_n 3 dX8_leastMotor_102 rfl ?_
        exact td_ireturn rfl dX8_leastMotor_103 K
def mtS (g : nH) (t : Nat) : Nat → Nat → Int32
  | 0, _ => -4
  | f + 1, m => if lastE (cfgM g m) ≤ t then nI m else mtS g t f (m + 1)
def moI (g : nH) (h : td_H) : Prop := ∃ K, K ≤ 21 ∧ h 43 7 = nI K ∧ ∀ m, m < K → h 73 m = nI (lastE (cfgM g m))
def FrM1 (h h' : td_H) : Prop := ∀ a b, ¬ ((a = 43 ∧ b = 7) ∨ (44 ≤ a ∧ a ≤ 63) ∨ a = 73) → h' a b = h a b
theorem c_R_motor {G : td_G} {d : Nat} {h : td_H} {g : nH} (x : Int32) (hP : dP g 1 h) (h5 : 12 ≤ g 5 0) (hK : dKn 50 h) (hm : moI g h) (hx : vp_in x 120) : td_C G (d + 6) mX8_leastMotor [.ref 43, .ref 1, .int x] h (fun r h' => r = some (.int (mtS g (ix x) 21 0)) ∧ FrM1 h h' ∧ dKn 50 h' ∧ moI g h') := by
  obtain ⟨t, ht, rfl⟩ := vp_in_of hx (by decide)
  rw [ixn (by omega)]
  have hn := hP.1.n
  refine td_entry rfl (Nat.le_of_ble_eq_true rfl) rfl (gX8_leastMotor_0 (k1 := 1) rfl ?_)
  have loop : ∀ f m (h1 : td_H), f + m = 21 → mtS g t f m = mtS g t 21 0 → FrM1 h h1 → dKn 50 h1 → (∃ K, m ≤ K ∧ K ≤ 21 ∧ h1 43 7 = nI K ∧ ∀ i, i < K → h1 73 i = nI (lastE (cfgM g i))) → td_J G (d + 6) mX8_leastMotor (fun r h' => r = some (.int (mtS g t 21 0)) ∧ FrM1 h h' ∧ dKn 50 h' ∧ moI g h') 2 [(0, .ref 43), (1, .ref 1), (2, .int (nI t)), (3, .int (nI m))] [] h1 := by
    intro f
    induction f with
    | zero =>
      intro m h1 hf he hF hK1 hm1
      have : m = 21 := by omega
      subst this
      obtain ⟨K, k1, k2, k3, k4⟩ := hm1
      exact gX8_leastMotor_2 (n := 0) (q := 0) (f := fun _ => 0) (c := g) rfl ⟨fun _ => ⟨by rw [← he]; rfl, hF, hK1, K, k2, k3, k4⟩, fun y => absurd (by decide) y⟩
    | succ f ih =>
      intro m h1 hf he hF hK1 hm1
      obtain ⟨K, k1, k2, k3, k4⟩ := hm1
      have hc : wfC (cfgM g m) := hP.1.of (cfgM_s hP.1 (by omega)) (fun a b z _ => cfgM_o g m a b (by omega))
      have hl := lastE_le (c := cfgM g m) hc.n
      rw [show mtS g t (f + 1) m = if lastE (cfgM g m) ≤ t then nI m else mtS g t f (m + 1) from rfl] at he
      have n1 : cfgM g m 1 0 = g 1 0 := cfgM_o g m 1 0 (by decide)
      have v21 : vp_in (nI m) 21 := vp_in_nI (by omega) (by decide)
      have em : ix (nI m) = m := ixn (by omega)
      -- when the answer of m is known
      have last : ∀ h2 : td_H, FrM1 h h2 → dKn 50 h2 → (∃ K, m + 1 ≤ K ∧ K ≤ 21 ∧ h2 43 7 = nI K ∧ ∀ i, i < K → h2 73 i = nI (lastE (cfgM g i))) → (nI t < h2 73 m → td_J G (d + 6) mX8_leastMotor (fun r h' => r = some (.int (mtS g t 21 0)) ∧ FrM1 h h' ∧ dKn 50 h' ∧ moI g h') 2 [(0, .ref 43), (1, .ref 1), (2, .int (nI t)), (3, .int (nI m + 1))] [] h2) ∧ (¬ nI t < h2 73 m → (some (Value.int (nI m)) = some (.int (mtS g t 21 0)) ∧ FrM1 h h2 ∧ dKn 50 h2 ∧ moI g h2)) := by
        intro h2 F2 K2 hm2
        obtain ⟨K', j1, j2, j3, j4⟩ := hm2
        rw [j4 m (by omega)]
        refine ⟨fun y => ?_, fun y => ?_⟩
        · have y2 := lt_of y
          rw [if_neg (by omega)] at he
          exact td_to (ih (m + 1) h2 (by omega) he F2 K2 ⟨K', j1, j2, j3, j4⟩) (by rw [nI_1]) rfl rfl
        · have y2 := nlt_of y
          rw [if_pos y2] at he
          exact ⟨by rw [he], F2, K2, K', j2, j3, j4⟩
      refine gX8_leastMotor_2 (n := g 1 0) (q := 44) (f := fun p => sRun (cfgM g m) 120 3 p) (c := cfgM g m) rfl ⟨fun y => absurd (le_of (a := 21) y) (by omega), fun _ => ⟨fun y => ⟨v21, ?_⟩, fun y => ⟨by omega, fun h21 hh => ?_⟩⟩⟩
      · have y2 : m < K := lt_of (by rw [k3] at y; exact y)
        rw [em]
        exact last h1 hF hK1 ⟨K, y2, k2, k3, k4⟩
      · have y2 : K ≤ m := nlt_of (by rw [k3] at y; exact y)
        have F21 : FrM1 h (hu h21 45 3 (nI m)) := fun a b z => by rw [hu_app, if_neg (by omega), hh.1 _ _ (by omega)]; exact hF a b z
        have P1 : dP g 1 h1 := ⟨hP.1, fun i hi => by rw [hF _ _ (by omega)]; exact hP.2.1 i hi, by rw [hF _ _ (by omega)]; exact hP.2.2.1, fun p hp => by rw [hF _ _ (by omega), hF _ _ (by omega), hF _ _ (by omega)]; exact hP.2.2.2 p hp⟩
        have Pg := hh.2 g P1
        have Pc : dP (cfgM g m) 44 (hu h21 45 3 (nI m)) := Pg.sets (cfgM_s hP.1 (by omega)) (fun a b z _ => cfgM_o g m a b (by omega)) (fun i hi => by
          rw [hu_app]
          unfold cfgM
          rw [nu_app]
          by_cases z : i = 3
          · rw [if_pos ⟨rfl, z⟩, if_pos ⟨rfl, z⟩]
          · rw [if_neg (fun w => z w.2), if_neg (fun w => z w.2)]; exact Pg.2.1 i hi) (fun a b z => by rw [hu_app, if_neg (fun w => z w.1)])
        have kn : ∀ h2 : td_H, (∀ a b, 50 ≤ a → a ≤ 63 → h2 a b = h1 a b) → dKn 50 h2 := fun h2 e => by
          rcases hK1 with z | ⟨L, O, z⟩
          · left; rw [e _ _ (by omega) (by omega)]; exact z
          · right; exact ⟨L, O, z.fr (e _ _ (by omega) (by omega)) (e _ _ (by omega) (by omega)) (fun a b ha => e _ _ (by omega) (by omega))⟩
        refine ⟨by decide, Pc, kn _ (fun a b z1 z2 => by rw [hu_app, if_neg (by omega), hh.1 _ _ (by omega)]), ?_, fun h49 hb => ?_⟩
        · rw [Pc.2.2.1]
          exact com_all (c := cfgM g m) (by rw [cfgM_o g m 5 0 (by decide)]; exact h5) hc.n
        · obtain ⟨hbF, Q, hQ49, hV49⟩ := hb
          refine ⟨⟨Q, hQ49⟩, hV49, by unfold vp_in; decide, fun h59 hr => ?_⟩
          rw [show min (ix 119 + 1) 120 = 120 by decide] at hr
          have ends := fun p hp => hr.2.ends (p := p) (by rw [cfgM_o g m 5 0 (by decide)]; exact h5) hc.n hp
          have F49 : FrM1 h h49 := fun a b z => by rw [hbF _ _ (by omega)]; exact F21 a b z
          have F59 : FrM1 h h59 := fun a b z => by rw [hr.1 _ _ (by unfold dynP; omega)]; exact F49 a b z
          have P49 : dP (cfgM g m) 44 h49 := hbF.P (Or.inl (by decide)) Pc
          have e44 : h59 44 4 = nI (g 1 0) := by rw [hr.1 _ _ (by unfold dynP; omega), P49.2.2.1, n1]
          refine ⟨e44, hn, fun p hp => ⟨(ends p (by rw [n1]; exact hp)).1, end_le hc.n (by rw [n1]; exact hp)⟩, v21, fun H84 E84 => ?_⟩
          have eL : mxN (fun p => sRun (cfgM g m) 120 3 p) (g 1 0) = lastE (cfgM g m) := by unfold lastE; rw [n1]
          rw [em, eL] at E84
          rw [em]
          refine last (hu H84 43 7 (nI m + 1)) (fun a b z => ?_) ?_ ⟨m + 1, Nat.le_refl _, by omega, by rw [hu_app, if_pos ⟨rfl, rfl⟩, nI_1], fun i hi => ?_⟩
          · rw [hu_app, if_neg (by omega), E84, hu_app, if_neg (by omega)]; exact F59 a b z
          · rcases dQE.kn ⟨Q, hQ49⟩ hr.1 with z | ⟨L, O, z⟩
            · left; rw [hu_app, if_neg (by omega), E84, hu_app, if_neg (by omega)]; exact z
            · right; exact ⟨L, O, z.fr (by rw [hu_app, if_neg (by omega), E84, hu_app, if_neg (by omega)]) (by rw [hu_app, if_neg (by omega), E84, hu_app, if_neg (by omega)]) (fun a b ha => by rw [hu_app, if_neg (by omega), E84, hu_app, if_neg (by omega)])⟩
          · rw [hu_app, if_neg (by omega), E84, hu_app]
            by_cases z : i = m
            · rw [if_pos ⟨rfl, z⟩, z]
            · rw [if_neg (fun w => z w.2), hr.1 _ _ (by unfold dynP; omega), hbF _ _ (by omega), hu_app, if_neg (by omega), hh.1 _ _ (by omega)]
              exact k4 i (by omega)
  obtain ⟨K, k1, k2, k3⟩ := hm
  exact loop 21 0 h rfl rfl (fun _ _ _ => rfl) hK ⟨K, Nat.zero_le _, k1, k2, k3⟩
