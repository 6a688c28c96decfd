/-! Door: the best order -/
set_option maxRecDepth 20000 in
set_option maxHeartbeats 4000000 in
theorem gX8_findOrder_0 {G : td_G} {d : Nat} {Post : td_P} {v : Nat} {c : nH} {k1 : Nat} {x2 : Int32} {h : td_H} (hk1 : td_kd k1 = 5) (K : (¬ (h 69 4) = x2 → ((44 + 4 < k1 ∨ k1 + 4 < 44) ∧ (∀ h17 : td_H, (FrQ (44) h h17 ∧ ∀ c, dP c (k1) h → dP c (44) h17) → (x2 = nI v ∧ dP c (k1) h17 ∧ ordV c v ∧ (∀ h26 : td_H, ((∀ a b, ¬ ((a = 69 ∧ 3 ≤ b) ∨ a = 70 ∨ a = 72) → h26 a b = h17 a b) ∧ orR c v 0 h26 ∧ h26 69 4 = nI v ∧ h26 69 5 = 120 ∧ h26 69 6 = 2147483647) → (td_J G (d + 6) mX8_findOrder Post 31 [(0, .ref 43), (1, .ref k1), (2, .int x2), (3, .int 0)] [] h26)))))) ∧ ((h 69 4) = x2 → (Post none h))) : td_J G (d + 6) mX8_findOrder Post 0 [(0, .ref 43), (1, .ref k1), (2, .int x2)] [] h := by
  refine td_aload_n 0 dX8_findOrder_0 rfl ?_
  refine gf_X8_28 rfl kp_43 dX8_findOrder_1 ?_
  refine gf_X8_56 rfl kp_69 dX8_findOrder_4 ?_
  refine td_iload_n 2 dX8_findOrder_7 rfl ?_
  obtain ⟨Kt, Kf⟩ := K
  refine td_icmp_ne (tgt := 12) dX8_findOrder_8 (by decide) (fun q8 => ?_) (fun q8 => ?_)
  · have K := Kt q8
    refine td_aload_n 0 dX8_findOrder_12 rfl ?_
    refine gf_X8_12 rfl kp_43 dX8_findOrder_13 ?_
    refine td_aload_n 1 dX8_findOrder_16 rfl ?_
    obtain ⟨e17_0, K⟩ := K
    refine cl_X8_59 rfl kp_44 dX8_findOrder_17 (Nat.le_of_ble_eq_true rfl) (c_P_become kp_44 hk1 e17_0) ?_
    rintro _ h17 ⟨rfl, f17⟩
    have K := K h17 f17
    refine td_eqs (st2 := []) rfl ?_
    refine td_aload_n 0 dX8_findOrder_20 rfl ?_
    refine gf_X8_28 rfl kp_43 dX8_findOrder_21 ?_
    refine td_aload_n 1 dX8_findOrder_24 rfl ?_
    refine td_iload_n 2 dX8_findOrder_25 rfl ?_
    obtain ⟨e26_0, K⟩ := K
    obtain ⟨e26_1, K⟩ := K
    obtain ⟨e26_2, K⟩ := K
    refine cl_X8_126 rfl kp_69 dX8_findOrder_26 (Nat.le_of_ble_eq_true rfl) (c_O_begin hk1 v x2 e26_0 e26_1 e26_2) ?_
    rintro _ h26 ⟨rfl, f26⟩
    have K := K h26 f26
    refine td_eqs (st2 := []) rfl ?_
    refine td_iconst (v := 0) dX8_findOrder_29 (by decide) ?_
    refine td_istore_n (lv2 := [(0, .ref 43), (1, .ref k1), (2, .int x2), (3, .int 0)]) dX8_findOrder_30 (by decide) rfl ?_
    exact K
  · have K := Kf q8
    exact td_return rfl dX8_findOrder_11 K
set_option maxRecDepth 20000 in
set_option maxHeartbeats 4000000 in
theorem gX8_findOrder_31 {G : td_G} {d : Nat} {Post : td_P} {io kn lst q v : Nat} {r : Nat → Nat} {c c2 cc : nH} {k1 : Nat} {x2 x3 : Int32} {h : td_H} (hk1 : td_kd k1 = 5) (K : (720 ≤ x3 → (Post none h)) ∧ (¬ 720 ≤ x3 → (wfC c ∧ ordV c v ∧ io < fct (popc v) ∧ orR c v io h ∧ (((b2i (nwB c v io = true)) = 0 → (1 ≤ kn ∧ kn ≤ 6 ∧ h 69 3 = nI kn ∧ (∀ a, a < kn → h 70 a = nI (r a) ∧ r a < 12) ∧ (∀ h114 : td_H, ((∀ a b, a ≠ 70 → h114 a b = h a b) ∧ (flF r (kn - 1) ≠ 0 → ∀ a, a < kn → h114 70 a = nI (nxF kn r a))) → ((¬ (b2i (flF r (kn - 1) ≠ 0)) = 0 → td_J G (d + 6) mX8_findOrder Post 31 [(0, .ref 43), (1, .ref k1), (2, .int x2), (3, .int (x3 + 1))] [] h114) ∧ ((b2i (flF r (kn - 1) ≠ 0)) = 0 → (Post none h114)))))) ∧ (¬ (b2i (nwB c v io = true)) = 0 → (dP c2 (44) h ∧ (∀ a b, ¬ (a = 4 ∧ bits v b = true) → c2 a b = c a b) ∧ (∀ h56 : td_H, ((∀ a b, a ≠ 44 + 2 → h56 a b = h a b) ∧ dP (cfgO c v io) (44) h56) → (44 + 4 < 49 ∧ dP cc (44) h56 ∧ dKn (49 + 1) h56 ∧ ((jshl 1 (h56 44 4)) - 1) = ms (comM cc) ∧ (∀ h74 : td_H, (FrC (49) h56 h74 ∧ ∃ Q, dQ cc Q (49) (44) h74 ∧ dV cc s0 (49) h74) → (dQE cc (49) q h74 ∧ dV cc s0 (49) h74 ∧ vp_in (h74 69 5) 121 ∧ (∀ h89 : td_H, (FrD (49) h74 h89 ∧ dRun cc (min (ix (h74 69 5) + 1) 120) 1 (49) h89) → (orR c v io h89 ∧ obI c v io h89 ∧ (h89 69 5 = nI lst ∧ lst ≤ 120) ∧ (∃ f w : Nat → Nat, (∀ p, p < c 1 0 → h89 59 p = nI (f p) ∧ f p ≤ 120) ∧ (∀ p, p < c 1 0 → h89 58 p - h89 46 p = nI (w p)) ∧ ((mxN f (c 1 0) ≤ lst ∨ lO c v io ≤ lst) → mxN f (c 1 0) = lO c v io ∧ fb_sm w (c 1 0) = wO c v io)) ∧ h89 44 4 = nI (c 1 0) ∧ c 1 0 ≤ 12 ∧ (∀ h107 : td_H, ((∀ a b, ¬ ((a = 69 ∧ (b = 5 ∨ b = 6)) ∨ a = 71) → h107 a b = h89 a b) ∧ obI c v (io + 1) h107) → (1 ≤ kn ∧ kn ≤ 6 ∧ h107 69 3 = nI kn ∧ (∀ a, a < kn → h107 70 a = nI (r a) ∧ r a < 12) ∧ (∀ h114 : td_H, ((∀ a b, a ≠ 70 → h114 a b = h107 a b) ∧ (flF r (kn - 1) ≠ 0 → ∀ a, a < kn → h114 70 a = nI (nxF kn r a))) → ((¬ (b2i (flF r (kn - 1) ≠ 0)) = 0 → td_J G (d + 6) mX8_findOrder Post 31 [(0, .ref 43), (1, .ref k1), (2, .int x2), (3, .int (x3 + 1))] [] h114) ∧ ((b2i (flF r (kn - 1) ≠ 0)) = 0 → (Post none h114)))))))))))))))))) : td_J G (d + 6) mX8_findOrder Post 31 [(0, .ref 43), (1, .ref k1), (2, .int x2), (3, .int x3)] [] h := by
  refine td_iload_n 3 dX8_findOrder_31 rfl ?_
  refine td_sipush (v := 720) dX8_findOrder_32 (by decide) ?_
  obtain ⟨Kt, Kf⟩ := K
  refine td_icmp_ge (tgt := 127) dX8_findOrder_35 (by decide) (fun q35 => ?_) (fun q35 => ?_)
  · have K := Kt q35
    exact td_return rfl dX8_findOrder_127 K
  · have K := Kf q35
    refine td_aload_n 0 dX8_findOrder_38 rfl ?_
    refine gf_X8_28 rfl kp_43 dX8_findOrder_39 ?_
    obtain ⟨e42_0, K⟩ := K
    obtain ⟨e42_1, K⟩ := K
    obtain ⟨e42_2, K⟩ := K
    obtain ⟨e42_3, K⟩ := K
    refine cl_X8_127 rfl kp_69 dX8_findOrder_42 (Nat.le_of_ble_eq_true rfl) (c_O_isNew (g := c) (v := v) (i := io) e42_0 e42_1 e42_2 e42_3) (eR_k ?_)
    refine td_eqs (st2 := [.int (b2i (nwB c v io = true))]) rfl ?_
    obtain ⟨Kt, Kf⟩ := K
    refine td_if_eq (tgt := 110) dX8_findOrder_45 (by decide) (fun q45 => ?_) (fun q45 => ?_)
    · have K := Kt q45
      refine td_aload_n 0 dX8_findOrder_110 rfl ?_
      refine gf_X8_28 rfl kp_43 dX8_findOrder_111 ?_
      obtain ⟨e114_0, K⟩ := K
      obtain ⟨e114_1, K⟩ := K
      obtain ⟨e114_2, K⟩ := K
      obtain ⟨e114_3, K⟩ := K
      refine cl_X8_141 rfl kp_69 dX8_findOrder_114 (Nat.le_of_ble_eq_true rfl) (c_O_next kn r e114_0 e114_1 e114_2 e114_3) ?_
      rintro _ h114 ⟨rfl, f114⟩
      have K := K h114 f114
      refine td_eqs (st2 := [.int (b2i (flF r (kn - 1) ≠ 0))]) rfl ?_
      obtain ⟨Kt, Kf⟩ := K
      refine td_if_ne (tgt := 121) dX8_findOrder_117 (by decide) (fun q117 => ?_) (fun q117 => ?_)
      · have K := Kt q117
        refine td_iinc 3 (v := x3 + 1) (lv2 := [(0, .ref 43), (1, .ref k1), (2, .int x2), (3, .int (x3 + 1))]) dX8_findOrder_121 rfl (congrArg (x3 + ·) (by decide)) (by decide) rfl ?_
        refine td_goto (tgt := 31) dX8_findOrder_124 (by decide) ?_
        exact K
      · have K := Kf q117
        exact td_return rfl dX8_findOrder_120 K
    · have K := Kf q45
      refine td_aload_n 0 dX8_findOrder_48 rfl ?_
      refine gf_X8_28 rfl kp_43 dX8_findOrder_49 ?_
      refine td_aload_n 0 dX8_findOrder_52 rfl ?_
      refine gf_X8_12 rfl kp_43 dX8_findOrder_53 ?_
      obtain ⟨e56_4, K⟩ := K
      obtain ⟨e56_5, K⟩ := K
      refine cl_X8_131 rfl kp_69 dX8_findOrder_56 (Nat.le_of_ble_eq_true rfl) (c_O_deal (g := c) (c' := c2) (v := v) (i := io) kp_44 e42_0 e42_1 e42_2 e42_3 e56_4 e56_5) ?_
      rintro _ h56 ⟨rfl, f56⟩
      have K := K h56 f56
      refine td_eqs (st2 := []) rfl ?_
      refine td_aload_n 0 dX8_findOrder_59 rfl ?_
      refine gf_X8_21 rfl kp_43 dX8_findOrder_60 ?_
      refine td_aload_n 0 dX8_findOrder_63 rfl ?_
      refine gf_X8_12 rfl kp_43 dX8_findOrder_64 ?_
      refine td_aload_n 0 dX8_findOrder_67 rfl ?_
      refine gf_X8_12 rfl kp_43 dX8_findOrder_68 ?_
      refine cl_X8_66 rfl kp_44 dX8_findOrder_71 (Nat.le_of_ble_eq_true rfl) (c_P_everyone kp_44) (eR_k ?_)
      refine td_eqs (st2 := [.int ((jshl 1 (h56 44 4)) - 1), .ref 44, .ref 49]) rfl ?_
      obtain ⟨e74_0, K⟩ := K
      obtain ⟨e74_1, K⟩ := K
      obtain ⟨e74_2, K⟩ := K
      obtain ⟨e74_3, K⟩ := K
      refine cl_X8_70 rfl kp_49 dX8_findOrder_74 (Nat.le_of_ble_eq_true rfl) (c_C_begin (c := cc) kp_49 kp_44 ((jshl 1 (h56 44 4)) - 1) e74_0 e74_1 e74_2 e74_3) ?_
      rintro _ h74 ⟨rfl, f74⟩
      have K := K h74 f74
      refine td_eqs (st2 := []) rfl ?_
      refine td_aload_n 0 dX8_findOrder_77 rfl ?_
      refine gf_X8_21 rfl kp_43 dX8_findOrder_78 ?_
      refine td_aload_n 0 dX8_findOrder_81 rfl ?_
      refine gf_X8_28 rfl kp_43 dX8_findOrder_82 ?_
      refine gf_X8_134 rfl kp_69 dX8_findOrder_85 ?_
      refine td_iconst (v := 1) dX8_findOrder_88 (by decide) ?_
      obtain ⟨e89_0, K⟩ := K
      obtain ⟨e89_1, K⟩ := K
      obtain ⟨e89_2, K⟩ := K
      refine cl_X8_74 rfl kp_49 dX8_findOrder_89 (Nat.le_of_ble_eq_true rfl) (c_C_run' (c := cc) (h74 69 5) 1 e89_0 e89_1 e89_2) ?_
      rintro _ h89 ⟨rfl, f89⟩
      have K := K h89 f89
      refine td_eqs (st2 := []) rfl ?_
      refine td_aload_n 0 dX8_findOrder_92 rfl ?_
      refine gf_X8_28 rfl kp_43 dX8_findOrder_93 ?_
      refine td_aload_n 0 dX8_findOrder_96 rfl ?_
      refine gf_X8_21 rfl kp_43 dX8_findOrder_97 ?_
      refine gf_X8_78 rfl kp_49 dX8_findOrder_100 ?_
      refine td_aload_n 0 dX8_findOrder_103 rfl ?_
      refine gf_X8_12 rfl kp_43 dX8_findOrder_104 ?_
      obtain ⟨e107_1, K⟩ := K
      obtain ⟨e107_2, K⟩ := K
      obtain ⟨e107_3, K⟩ := K
      obtain ⟨e107_4, K⟩ := K
      obtain ⟨e107_5, K⟩ := K
      obtain ⟨e107_6, K⟩ := K
      refine cl_X8_137 rfl kp_69 dX8_findOrder_107 (Nat.le_of_ble_eq_true rfl) (c_O_weigh (g := c) (v := v) (i := io) (last := lst) e42_1 e107_1 e107_2 e107_3 e107_4 e107_5 e107_6) ?_
      rintro _ h107 ⟨rfl, f107⟩
      have K := K h107 f107
      refine td_eqs (st2 := []) rfl ?_
      refine td_aload_n 0 dX8_findOrder_110 rfl ?_
      refine gf_X8_28 rfl kp_43 dX8_findOrder_111 ?_
      obtain ⟨e114_0, K⟩ := K
      obtain ⟨e114_1, K⟩ := K
      obtain ⟨e114_2, K⟩ := K
      obtain ⟨e114_3, K⟩ := K
      refine cl_X8_141 rfl kp_69 dX8_findOrder_114 (Nat.le_of_ble_eq_true rfl) (c_O_next kn r e114_0 e114_1 e114_2 e114_3) ?_
      rintro _ h114 ⟨rfl, f114⟩
      have K := K h114 f114
      refine td_eqs (st2 := [.int (b2i (flF r (kn - 1) ≠ 0))]) rfl ?_
      obtain ⟨Kt, Kf⟩ := K
      refine td_if_ne (tgt := 121) dX8_findOrder_117 (by decide) (fun q117 => ?_) (fun q117 => ?_)
      · have K := Kt q117
        refine td_iinc 3 (v := x3 + 1) (lv2 := [(0, .ref 43), (1, .ref k1), (2, .int x2), (3, .int (x3 + 1))]) dX8_findOrder_121 rfl (congrArg (x3 + ·) (by decide)) (by decide) rfl ?_
        refine td_goto (tgt := 31) dX8_findOrder_124 (by decide) ?_
        exact K
      · have K := Kf q117
        exact td_return rfl dX8_findOrder_120 K
/-- the order is known for those -/
def orI (g : nH) (h : td_H) : Prop := h 69 4 = 0 ∨ ∃ v, ordV g v ∧ v < 4096 ∧ h 69 4 = nI v ∧ obI g v (fct (popc v)) h
def FrM4 (h h' : td_H) : Prop := ∀ a b, ¬ ((a = 69 ∧ 3 ≤ b) ∨ (44 ≤ a ∧ a ≤ 63) ∨ a = 70 ∨ a = 71 ∨ a = 72) → h' a b = h a b
theorem fct_pos {K : Nat} (h1 : 1 ≤ K) (h6 : K ≤ 6) : 1 ≤ fct K ∧ fct K ≤ 720 := by
  obtain ⟨f1, f2, f3, f4, f5, f6⟩ := fct_v
  rcases (by omega : K = 1 ∨ K = 2 ∨ K = 3 ∨ K = 4 ∨ K = 5 ∨ K = 6) with z | z | z | z | z | z <;> subst z <;> omega
theorem nw_skip {g : nH} {v i : Nat} (hv : ordV g v) (hi : i < fct (popc v)) (hn : ¬ nwB g v i = true) : 0 < i ∧ bO g v i = bO g v (i - 1) := by
  obtain ⟨v1, v6, vn⟩ := hv
  have : ∃ a, a < popc v - 1 ∧ tkF g v (popc v) a = tkF g v (popc v) (a + 1) ∧ prm (popc v) i (a + 1) < prm (popc v) i a := by
    apply Classical.byContradiction
    intro z
    apply hn
    refine allB_iff.mpr (fun a ha => ?_)
    by_cases y : tkF g v (popc v) a = tkF g v (popc v) (a + 1)
    · have w : ¬ prm (popc v) i (a + 1) < prm (popc v) i a := fun u => z ⟨a, ha, y, u⟩
      simp [w]
    · simp [y]
  obtain ⟨a, ha, ht, hd⟩ := this
  obtain ⟨r1, r2⟩ := cfgO_same v1 v6 hi (by omega) ht hd
  obtain ⟨j, rfl⟩ : ∃ j, i = j + 1 := ⟨i - 1, by omega⟩
  exact ⟨by omega, bO_skip (j := rkS (popc v) (j + 1) a) (by omega) r2⟩
theorem obI.skip {g : nH} {v i : Nat} {h : td_H} (x : obI g v i h) (h0 : 0 < i) (e : bO g v i = bO g v (i - 1)) : obI g v (i + 1) h := by
  rcases x with z | ⟨-, z1, z2, z3⟩
  · omega
  · refine Or.inr ⟨by omega, ?_, ?_, fun a ha => ?_⟩
    · rw [show i + 1 - 1 = i from rfl, e]; exact z1
    · rw [show i + 1 - 1 = i from rfl, e]; exact z2
    · rw [show i + 1 - 1 = i from rfl, e]; exact z3 a ha
theorem obI.fr {g : nH} {v i : Nat} {h h' : td_H} (x : obI g v i h) (e5 : h' 69 5 = h 69 5) (e6 : h' 69 6 = h 69 6) (e : ∀ b, h' 71 b = h 71 b) : obI g v i h' := by
  rcases x with ⟨z0, z1, z2⟩ | ⟨z0, z1, z2, z3⟩
  · exact Or.inl ⟨z0, e5.trans z1, e6.trans z2⟩
  · exact Or.inr ⟨z0, e5.trans z1, e6.trans z2, fun a ha => (e a).trans (z3 a ha)⟩
theorem orR.fr {g : nH} {v i : Nat} {h h' : td_H} (x : orR g v i h) (e3 : h' 69 3 = h 69 3) (e : ∀ a b, a = 70 ∨ a = 72 → h' a b = h a b) : orR g v i h' := ⟨e3.trans x.1, fun a ha => (e _ _ (Or.inl rfl)).trans (x.2.1 a ha), fun a ha => (e _ _ (Or.inr rfl)).trans (x.2.2 a ha)⟩
theorem obI.last {g : nH} {v i : Nat} {h : td_H} (x : obI g v i h) (hn : g 1 0 ≤ 12) : ∃ last, h 69 5 = nI last ∧ last ≤ 120 := by
  rcases x with ⟨z0, z1, z2⟩ | ⟨z0, z1, z2, z3⟩
  · exact ⟨120, z1, by decide⟩
  · exact ⟨_, z1, lastE_le (by rw [cfgO_o _ _ _ 1 0 (by decide)]; exact hn)⟩
theorem c_R_order {G : td_G} {d : Nat} {h : td_H} {g : nH} (v : Nat) (x : Int32) (hx : x = nI v) (hP : dP g 1 h) (h5 : 12 ≤ g 5 0) (hK : dKn 50 h) (hv : ordV g v) (hO : orI g h) : td_C G (d + 6) mX8_findOrder [.ref 43, .ref 1, .int x] h (fun r h' => r = none ∧ FrM4 h h' ∧ dKn 50 h' ∧ h' 69 4 = nI v ∧ obI g v (fct (popc v)) h') := by
  subst hx
  have hn := hP.1.n
  have hv0 := hv
  obtain ⟨v1, v6, vn⟩ := hv
  have hv12 : v < 4096 := Nat.lt_of_lt_of_le vn (Nat.pow_le_pow_right (by decide) hn)
  obtain ⟨fp, f720⟩ := fct_pos v1 v6
  have v0 : v ≠ 0 := fun z => by
    have : popc v = 0 := by rw [z]; decide
    omega
  refine td_entry rfl (Nat.le_of_ble_eq_true rfl) rfl (gX8_findOrder_0 (v := v) (c := g) (k1 := 1) rfl ⟨fun y => ⟨by omega, fun h17 hh => ⟨rfl, hh.1.P (by omega) hP, hv0, fun h26 hb => ?_⟩⟩, fun y => ?_⟩)
  · obtain ⟨bF, bR, b4, b5, b6⟩ := hb
    have loop : ∀ u i (h1 : td_H), i + u + 1 = fct (popc v) → FrM4 h h1 → dKn 50 h1 → orR g v i h1 → obI g v i h1 → h1 69 4 = nI v → (∃ c2, dP c2 44 h1 ∧ ∀ a b, ¬ (a = 4 ∧ bits v b = true) → c2 a b = g a b) → td_J G (d + 6) mX8_findOrder (fun r h' => r = none ∧ FrM4 h h' ∧ dKn 50 h' ∧ h' 69 4 = nI v ∧ obI g v (fct (popc v)) h') 31 [(0, .ref 43), (1, .ref 1), (2, .int (nI v)), (3, .int (nI i))] [] h1 := by
      intro u
      have nxt : ∀ i, i < fct (popc v) → (∀ a, a < popc v → nI (wh v (prm (popc v) i a)) = nI ((fun a => wh v (prm (popc v) i a)) a) ∧ (fun a => wh v (prm (popc v) i a)) a < 12) ∧ flF (fun a => wh v (prm (popc v) i a)) (popc v - 1) = flF (prm (popc v) i) (popc v - 1) ∧ ∀ a, nxF (popc v) (fun a => wh v (prm (popc v) i a)) a = wh v (nxF (popc v) (prm (popc v) i) a) := fun i hi => by
        have pf := prm_facts v1 v6 hi
        have hm : ∀ a b, a < popc v → b < popc v → (wh v (prm (popc v) i a) < wh v (prm (popc v) i b) ↔ prm (popc v) i a < prm (popc v) i b) := fun a b ha hb => wh_lt (pf.2.1 a ha) (pf.2.1 b hb)
        exact ⟨fun a ha => ⟨rfl, (wh_in (pf.2.1 a ha)).1⟩, flF_w (w := wh v) hm _ (by omega), fun a => nxF_w v1 (w := wh v) hm a⟩
      have body : ∀ i, i < fct (popc v) → (i + 1 < fct (popc v) → ∀ h2 : td_H, FrM4 h h2 → dKn 50 h2 → orR g v (i + 1) h2 → obI g v (i + 1) h2 → h2 69 4 = nI v → (∃ c2, dP c2 44 h2 ∧ ∀ a b, ¬ (a = 4 ∧ bits v b = true) → c2 a b = g a b) → td_J G (d + 6) mX8_findOrder (fun r h' => r = none ∧ FrM4 h h' ∧ dKn 50 h' ∧ h' 69 4 = nI v ∧ obI g v (fct (popc v)) h') 31 [(0, .ref 43), (1, .ref 1), (2, .int (nI v)), (3, .int (nI (i + 1)))] [] h2) → ∀ (h1 : td_H), FrM4 h h1 → dKn 50 h1 → orR g v i h1 → obI g v i h1 → h1 69 4 = nI v → (∃ c2, dP c2 44 h1 ∧ ∀ a b, ¬ (a = 4 ∧ bits v b = true) → c2 a b = g a b) → td_J G (d + 6) mX8_findOrder (fun r h' => r = none ∧ FrM4 h h' ∧ dKn 50 h' ∧ h' 69 4 = nI v ∧ obI g v (fct (popc v)) h') 31 [(0, .ref 43), (1, .ref 1), (2, .int (nI v)), (3, .int (nI i))] [] h1 := by
        intro i hi cont h1 hF hK1 hR hOb h4 hc2
        obtain ⟨c2, hP2, hc2⟩ := hc2
        obtain ⟨x1, x2, x3⟩ := nxt i hi
        have pf := prm_facts v1 v6 hi
        -- behind the weighing
        have tail : ∀ h2 : td_H, FrM4 h h2 → dKn 50 h2 → orR g v i h2 → obI g v (i + 1) h2 → h2 69 4 = nI v → (∃ c2, dP c2 44 h2 ∧ ∀ a b, ¬ (a = 4 ∧ bits v b = true) → c2 a b = g a b) → (∀ h114 : td_H, ((∀ a b, a ≠ 70 → h114 a b = h2 a b) ∧ (flF (fun a => wh v (prm (popc v) i a)) (popc v - 1) ≠ 0 → ∀ a, a < popc v → h114 70 a = nI (nxF (popc v) (fun a => wh v (prm (popc v) i a)) a))) → ((¬ (b2i (flF (fun a => wh v (prm (popc v) i a)) (popc v - 1) ≠ 0)) = 0 → td_J G (d + 6) mX8_findOrder (fun r h' => r = none ∧ FrM4 h h' ∧ dKn 50 h' ∧ h' 69 4 = nI v ∧ obI g v (fct (popc v)) h') 31 [(0, .ref 43), (1, .ref 1), (2, .int (nI v)), (3, .int (nI i + 1))] [] h114) ∧ ((b2i (flF (fun a => wh v (prm (popc v) i a)) (popc v - 1) ≠ 0)) = 0 → ((none : Option Value) = none ∧ FrM4 h h114 ∧ dKn 50 h114 ∧ h114 69 4 = nI v ∧ obI g v (fct (popc v)) h114)))) := by
          intro h2 F2 K2 R2 O2 f4 C2 h114 hh
          have F3 : FrM4 h h114 := fun a b z => by rw [hh.1 _ _ (by omega)]; exact F2 a b z
          have K3 : dKn 50 h114 := K2.fr (fun a b z1 z2 => hh.1 _ _ (by omega))
          have O3 : obI g v (i + 1) h114 := O2.fr (hh.1 _ _ (by decide)) (hh.1 _ _ (by decide)) (fun b => hh.1 _ _ (by decide))
          have f43 : h114 69 4 = nI v := by rw [hh.1 _ _ (by decide)]; exact f4
          refine ⟨fun y => ?_, fun y => ?_⟩
          · have y2 : flF (fun a => wh v (prm (popc v) i a)) (popc v - 1) ≠ 0 := Decidable.byContradiction fun z => y (b2i_0.mpr z)
            have y3 : flF (prm (popc v) i) (popc v - 1) ≠ 0 := by rw [← x2]; exact y2
            have ne : i + 1 ≠ fct (popc v) := fun z => y3 (pf.1.mpr z)
            rw [nI_1]
            refine cont (by omega) h114 F3 K3 ⟨by rw [hh.1 _ _ (by decide)]; exact R2.1, fun a ha => ?_, fun a ha => by rw [hh.1 _ _ (by decide)]; exact R2.2.2 a ha⟩ O3 f43 ?_
            · rw [hh.2 y2 a ha, x3 a, pf.2.2.1 ne a ha]
            · obtain ⟨c3, P3, e3⟩ := C2
              refine ⟨c3, ⟨P3.1, fun k hk => ?_, ?_, fun p hp => ?_⟩, e3⟩
              · rw [hh.1 _ _ (by decide)]; exact P3.2.1 k hk
              · rw [hh.1 _ _ (by decide)]; exact P3.2.2.1
              · rw [hh.1 _ _ (by decide), hh.1 _ _ (by decide), hh.1 _ _ (by decide)]; exact P3.2.2.2 p hp
          · have y2 : flF (fun a => wh v (prm (popc v) i a)) (popc v - 1) = 0 := Decidable.byContradiction fun z => b2i_0.mp y z
            have e := pf.1.mp (by rw [← x2]; exact y2)
            rw [e] at O3
            exact ⟨rfl, F3, K3, f43, O3⟩
        obtain ⟨last, hl1, hl2⟩ := hOb.last hn
        have cwf := cfgO_wf hP.1 vn i
        have g5 : 12 ≤ cfgO g v i 5 0 := by rw [cfgO_o g v i 5 0 (by decide)]; exact h5
        have n1 : cfgO g v i 1 0 = g 1 0 := cfgO_o g v i 1 0 (by decide)
        refine gX8_findOrder_31 (io := i) (kn := popc v) (lst := last) (q := 44) (v := v) (r := fun a => wh v (prm (popc v) i a)) (c := g) (c2 := c2) (cc := cfgO g v i) (k1 := 1) rfl ⟨fun y => absurd (le_of (a := 720) y) (by omega), fun _ => ⟨hP.1, hv0, hi, hR, fun y => ?_, fun y => ?_⟩⟩
        · obtain ⟨s0', s1⟩ := nw_skip hv0 hi (b2i_0.mp y)
          exact ⟨v1, v6, hR.1, fun a ha => ⟨hR.2.1 a ha, (x1 a ha).2⟩, tail h1 hF hK1 hR (hOb.skip s0' s1) h4 ⟨c2, hP2, hc2⟩⟩
        · refine ⟨hP2, hc2, fun h56 hd => ⟨by decide, hd.2, hK1.fr (fun a b z1 z2 => hd.1 _ _ (by omega)), ?_, fun h74 hb => ?_⟩⟩
          · rw [hd.2.2.2.1]; exact com_all g5 cwf.n
          · obtain ⟨hbF, Q, hQ, hV⟩ := hb
            have e74 : ∀ a b, ¬ (a = 46) → ¬ (49 ≤ a ∧ a ≤ 63) → h74 a b = h1 a b := fun a b z1 z2 => by rw [hbF _ _ (by omega), hd.1 _ _ (by omega)]
            have e5 : h74 69 5 = nI last := by rw [e74 _ _ (by decide) (by decide)]; exact hl1
            refine ⟨⟨Q, hQ⟩, hV, by rw [e5]; exact vp_in_nI (by omega) (by decide), fun h89 hr => ?_⟩
            rw [e5, ixn (by omega)] at hr
            have P74 : dP (cfgO g v i) 44 h74 := hbF.P (Or.inl (by decide)) hd.2
            have P89 : dP (cfgO g v i) 44 h89 := hr.1.P (by decide) P74
            have e89 : ∀ a b, ¬ (a = 46) → ¬ (49 ≤ a ∧ a ≤ 63) → h89 a b = h1 a b := fun a b z1 z2 => by rw [hr.1 _ _ (by unfold dynP; omega), e74 _ _ z1 z2]
            have R89 : orR g v i h89 := hR.fr (e89 _ _ (by decide) (by decide)) (fun a b z => e89 _ _ (by omega) (by omega))
            have O89 : obI g v i h89 := hOb.fr (e89 _ _ (by decide) (by decide)) (e89 _ _ (by decide) (by decide)) (fun b => e89 _ _ (by decide) (by decide))
            refine ⟨R89, O89, ⟨by rw [e89 _ _ (by decide) (by decide)]; exact hl1, hl2⟩, ?_, by rw [P89.2.2.1, n1], hn, fun h107 hw => ?_⟩
            · obtain ⟨f, w, k1, k2, k3⟩ := hr.2.cut P89 g5 hl2
              rw [n1] at k1 k2 k3
              exact ⟨f, w, k1, k2, k3⟩
            · have F107 : FrM4 h h107 := fun a b z => by rw [hw.1 _ _ (by omega), e89 _ _ (by omega) (by omega)]; exact hF a b z
              have R107 : orR g v i h107 := R89.fr (hw.1 _ _ (by decide)) (fun a b z => hw.1 _ _ (by omega))
              refine ⟨v1, v6, R107.1, fun a ha => ⟨R107.2.1 a ha, (x1 a ha).2⟩, tail h107 F107 ?_ R107 hw.2 ?_ ⟨cfgO g v i, ?_, fun a b z => ?_⟩⟩
              · exact (dQE.kn ⟨Q, hQ⟩ hr.1).fr (fun a b z1 z2 => hw.1 _ _ (by omega))
              · rw [hw.1 _ _ (by decide), e89 _ _ (by decide) (by decide)]; exact h4
              · refine ⟨P89.1, fun k hk => ?_, ?_, fun p hp => ?_⟩
                · rw [hw.1 _ _ (by omega)]; exact P89.2.1 k hk
                · rw [hw.1 _ _ (by omega)]; exact P89.2.2.1
                · rw [hw.1 _ _ (by omega), hw.1 _ _ (by omega), hw.1 _ _ (by omega)]; exact P89.2.2.2 p hp
              · by_cases y : a = 4
                · rw [y]; exact cfgO_4n g v i b (fun w => z ⟨y, w⟩)
                · exact cfgO_o g v i a b y
      induction u with
      | zero =>
        intro i h1 hi hF hK1 hR hOb h4 hc2
        exact body i (by omega) (fun z => absurd z (by omega)) h1 hF hK1 hR hOb h4 hc2
      | succ u ih =>
        intro i h1 hi hF hK1 hR hOb h4 hc2
        exact body i (by omega) (fun _ h2 a1 a2 a3 a4 a5 a6 => ih (i + 1) h2 (by omega) a1 a2 a3 a4 a5 a6) h1 hF hK1 hR hOb h4 hc2
    refine loop (fct (popc v) - 1) 0 h26 (by omega) (fun a b z => ?_) (hK.fr (fun a b z1 z2 => ?_)) bR (Or.inl ⟨rfl, b5, b6⟩) b4 ⟨g, ?_, fun _ _ _ => rfl⟩
    · rw [bF _ _ (by omega)]; exact hh.1 _ _ (by omega)
    · rw [bF _ _ (by omega)]; exact hh.1 _ _ (by omega)
    · have P17 := hh.2 g hP
      refine ⟨P17.1, fun k hk => ?_, ?_, fun p hp => ?_⟩
      · rw [bF _ _ (by omega)]; exact P17.2.1 k hk
      · rw [bF _ _ (by omega)]; exact P17.2.2.1
      · rw [bF _ _ (by omega), bF _ _ (by omega), bF _ _ (by omega)]; exact P17.2.2.2 p hp
  · rcases hO with z | ⟨v', w1, w2, w3, w4⟩
    · rw [z] at y
      exact absurd (eq_of (a := 0) y (by decide) (by omega)).symm v0
    · have : v' = v := eq_of (w3.symm.trans y)
      subst this
      exact ⟨rfl, fun _ _ _ => rfl, hK, y, w4⟩
