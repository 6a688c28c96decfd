/-! ===== THE MODEL BETWEEN CALLS ===== -/
def mZ (g : nH) (r : Nat) (h : td_H) : Prop := (∀ i, i < 9 → h r i = nI (g 0 i)) ∧ h r 9 = nI (g 1 0) ∧ ∀ p, p < g 1 0 → h r (10 + 3 * p) = nI (g 4 p) ∧ h r (11 + 3 * p) = nI (g 2 p) ∧ h r (12 + 3 * p) = nI (g 3 p)
def kpM (o : Option nH) (h : td_H) : Prop := match o with
  | none => h 85 27 = 0
  | some g2 => h 85 27 = 1 ∧ mZ g2 103 h
def tM (L : Nat) (f : Nat → Nat) (h : td_H) : Prop := h 85 5 = nI L ∧ ∀ i, i < L → h 89 i = nI (f i)
def shM (S : Nat → Nat → Int32) (h : td_H) : Prop := ∀ s, s < 4 → h 104 s = S s 0 ∧ h 105 s = S s 1 ∧ ∀ i, i < 16 → h 106 (16 * s + i) = S s (2 + i)
def MI (s : gS) (h : td_H) : Prop := mZ s.1 86 h ∧ kpM s.2.1 h ∧ tM s.2.2.1.1 s.2.2.1.2 h ∧ shM s.2.2.2 h
/-- what states keep to -/
def OK (s : gS) : Prop := wfC s.1 ∧ 12 ≤ s.1 5 0 ∧ (s.2.2.1.1 ≤ 80 ∧ ∀ i, i < s.2.2.1.1 → 32 ≤ s.2.2.1.2 i ∧ s.2.2.1.2 i ≤ 126) ∧ shW s.2.2.2
theorem DI.ok {s : gS} {h : td_H} (x : DI s h) : OK s := ⟨x.1.1.1, x.1.2.1, ⟨x.1.2.2.2.1.1, x.1.2.2.2.1.2.1⟩, x.1.2.2.2.2.2.1⟩
def FD (h h' : td_H) : Prop := ∀ a b, a < 85 → h' a b = h a b
theorem FD.rf (h : td_H) : FD h h := fun _ _ _ => rfl
def mPost (v : Int32) (s : gS) (h : td_H) : td_P := fun r h' => r = some (.int v) ∧ MI s h' ∧ FD h h'
theorem mZ.fr {g : nH} {r : Nat} {h h' : td_H} (x : mZ g r h) (e : ∀ b, h' r b = h r b) : mZ g r h' := ⟨fun i hi => (e _).trans (x.1 i hi), (e _).trans x.2.1, fun p hp => ⟨(e _).trans (x.2.2 p hp).1, (e _).trans (x.2.2 p hp).2.1, (e _).trans (x.2.2 p hp).2.2⟩⟩
theorem kpM.fr {o : Option nH} {h h' : td_H} (x : kpM o h) (e0 : h' 85 27 = h 85 27) (e : ∀ b, h' 103 b = h 103 b) : kpM o h' := by
  cases o with
  | none => exact e0.trans x
  | some g2 => exact ⟨e0.trans x.1, x.2.fr e⟩
theorem tM.fr {L : Nat} {f : Nat → Nat} {h h' : td_H} (x : tM L f h) (e0 : h' 85 5 = h 85 5) (e : ∀ b, h' 89 b = h 89 b) : tM L f h' := ⟨e0.trans x.1, fun i hi => (e i).trans (x.2 i hi)⟩
theorem shM.fr {S : Nat → Nat → Int32} {h h' : td_H} (x : shM S h) (e : ∀ a b, 104 ≤ a → h' a b = h a b) : shM S h' := fun s hs => ⟨(e _ _ (by omega)).trans (x s hs).1, (e _ _ (by omega)).trans (x s hs).2.1, fun i hi => (e _ _ (by omega)).trans ((x s hs).2.2 i hi)⟩
def qR (a b : Nat) : Prop := (a = 85 ∧ (b = 2 ∨ (17 ≤ b ∧ b ≤ 22))) ∨ a = 87 ∨ a = 88 ∨ (91 ≤ a ∧ a ≤ 102)
def FrN (h h' : td_H) : Prop := ∀ a b, ¬ qR a b → h' a b = h a b
theorem FrN.rf (h : td_H) : FrN h h := fun _ _ _ => rfl
theorem FrN.tr {h h1 h2 : td_H} (x : FrN h h1) (y : FrN h1 h2) : FrN h h2 := fun a b n => (y a b n).trans (x a b n)
theorem Fr.N {h h' : td_H} (x : Fr h h') : FrN h h' := fun a b n => x a b (fun z => n (by unfold simP at z; unfold qR; omega))
theorem MI.q {s : gS} {h h' : td_H} (x : MI s h) (f : FrN h h') : MI s h' ∧ FD h h' := by
  obtain ⟨a3, b, c, e⟩ := x
  exact ⟨⟨a3.fr (fun b => f _ _ (by unfold qR; omega)), b.fr (f _ _ (by unfold qR; omega)) (fun b => f _ _ (by unfold qR; omega)), c.fr (f _ _ (by unfold qR; omega)) (fun b => f _ _ (by unfold qR; omega)), e.fr (fun a b _ => f _ _ (by unfold qR; omega))⟩, fun a b z => f a b (by unfold qR; omega)⟩
/-! longs and ints -/
theorem in64 {x : Int32} {n : Nat} (hn : n < 2 ^ 31 - 1) : ((0 : Int64) ≤ x.toInt64 ∧ x.toInt64 ≤ lN n) ↔ (0 ≤ x ∧ x < nI (n + 1)) := by
  rw [fa_le64, fa_le64, Int32.toInt_toInt64, lN_toInt (by omega), fa_le, fa_lt, nI_toInt (by omega), Int32.toInt_zero, show (0 : Int64).toInt = 0 by decide]
  omega
theorem in64b {x : Int32} {n : Nat} (hn : n < 2 ^ 30) : ((0 : Int64) ≤ x.toInt64 ∧ x.toInt64 ≤ (nI n - 1).toInt64) ↔ (0 ≤ x ∧ x < nI n) := by
  have e : (nI n - 1).toInt = (n : Int) - 1 := pk_sub_toInt (a := n) (b := 1) hn (by decide)
  rw [fa_le64, fa_le64, Int32.toInt_toInt64, Int32.toInt_toInt64, e, fa_le, fa_lt, nI_toInt (by omega), Int32.toInt_zero, show (0 : Int64).toInt = 0 by decide]
  omega
theorem in64c {x : Int32} {n : Nat} (hn : n < 2 ^ 31) : ((1 : Int64) ≤ x.toInt64 ∧ x.toInt64 ≤ (nI n).toInt64) ↔ (¬ x ≤ 0 ∧ x ≤ nI n) := by
  rw [fa_le64, fa_le64, Int32.toInt_toInt64, Int32.toInt_toInt64, fa_le, fa_le, nI_toInt (by omega), Int32.toInt_zero, show (1 : Int64).toInt = 1 by decide]
  omega
theorem iq (n : Nat) {x : Int32} (ok : 0 ≤ x ∧ x < nI (n + 1)) (hn : n < 2 ^ 31 - 1 := by decide) : (0 : Int64) ≤ x.toInt64 ∧ x.toInt64 ≤ lN n := (in64 hn).mpr ok
theorem iqn (n : Nat) {x : Int32} (ok : (0 : Int64) ≤ x.toInt64 ∧ x.toInt64 ≤ lN n) (hn : n < 2 ^ 31 - 1 := by decide) : 0 ≤ x ∧ x < nI (n + 1) := (in64 hn).mp ok
/-! ones -/
set_option maxRecDepth 20000 in
set_option maxHeartbeats 4000000 in
theorem gX10_ones_0 {G : td_G} {d : Nat} {Post : td_P} {x0 : Int32} {h : td_H} (K : td_J G d mX10_ones Post 4 [(0, .int x0), (1, .int 0), (2, .int x0)] [] h) : td_J G d mX10_ones Post 0 [(0, .int x0)] [] h := by
  refine td_iconst (v := 0) dX10_ones_0 (by decide) ?_
  refine td_istore_n (lv2 := [(0, .int x0), (1, .int 0)]) dX10_ones_1 (by decide) rfl ?_
  refine td_iload_n 0 dX10_ones_2 rfl ?_
  refine td_istore_n (lv2 := [(0, .int x0), (1, .int 0), (2, .int x0)]) dX10_ones_3 (by decide) rfl ?_
  exact K
set_option maxRecDepth 20000 in
set_option maxHeartbeats 4000000 in
theorem gX10_ones_4 {G : td_G} {d : Nat} {Post : td_P} {x0 x1 x2 : Int32} {h : td_H} (K : (x2 = 0 → (Post (some (.int x1)) h)) ∧ (¬ x2 = 0 → td_J G d mX10_ones Post 4 [(0, .int x0), (1, .int (x1 + 1)), (2, .int (x2 &&& (x2 - 1)))] [] h)) : td_J G d mX10_ones Post 4 [(0, .int x0), (1, .int x1), (2, .int x2)] [] h := by
  refine td_iload_n 2 dX10_ones_4 rfl ?_
  obtain ⟨Kt, Kf⟩ := K
  refine td_if_eq (tgt := 20) dX10_ones_5 (by decide) (fun q5 => ?_) (fun q5 => ?_)
  · have K := Kt q5
    refine td_iload_n 1 dX10_ones_20 rfl ?_
    exact td_ireturn rfl dX10_ones_21 K
  · have K := Kf q5
    refine td_iinc 1 (v := x1 + 1) (lv2 := [(0, .int x0), (1, .int (x1 + 1)), (2, .int x2)]) dX10_ones_8 rfl (congrArg (x1 + ·) (by decide)) (by decide) rfl ?_
    refine td_iload_n 2 dX10_ones_11 rfl ?_
    refine td_iload_n 2 dX10_ones_12 rfl ?_
    refine td_iconst (v := 1) dX10_ones_13 (by decide) ?_
    refine td_isub dX10_ones_14 ?_
    refine td_iand dX10_ones_15 ?_
    refine td_istore_n (lv2 := [(0, .int x0), (1, .int (x1 + 1)), (2, .int (x2 &&& (x2 - 1)))]) dX10_ones_16 (by decide) rfl ?_
    refine td_goto (tgt := 4) dX10_ones_17 (by decide) ?_
    exact K
def onN : Nat → Nat → Nat
  | 0, _ => 0
  | f + 1, v => if v = 0 then 0 else onN f (v &&& (v - 1)) + 1
theorem nI_32 (x : Int32) : x = nI x.toBitVec.toNat := by
  apply Int32.toBitVec_inj.1
  show x.toBitVec = BitVec.ofNat 32 x.toBitVec.toNat
  exact (BitVec.ofNat_toNat _ _).symm ▸ (by simp)
theorem nI_z {v : Nat} (h : v < 2 ^ 32) : nI v = 0 ↔ v = 0 := by
  constructor
  · intro e
    have e2 := congrArg (fun z : Int32 => z.toBitVec.toNat) e
    have e3 : (nI v).toBitVec.toNat = v := by
      show (BitVec.ofNat 32 v).toNat = v
      rw [BitVec.toNat_ofNat, Nat.mod_eq_of_lt h]
    have e4 : (0 : Int32).toBitVec.toNat = 0 := rfl
    simp only [e3, e4] at e2
    exact e2
  · intro e; rw [e]; rfl
theorem c_ones {G : td_G} {d : Nat} {h : td_H} (x : Int32) : td_C G d mX10_ones [.int x] h (eR (nI (onN x.toBitVec.toNat x.toBitVec.toNat)) h) := by
  refine td_entry rfl (Nat.le_of_ble_eq_true rfl) rfl (gX10_ones_0 ?_)
  have loop : ∀ f v m, v ≤ f → v < 2 ^ 32 → td_J G d mX10_ones (eR (nI (m + onN f v)) h) 4 [(0, .int x), (1, .int (nI m)), (2, .int (nI v))] [] h := by
    intro f
    induction f with
    | zero =>
      intro v m hv _
      have e : v = 0 := by omega
      subst e
      exact gX10_ones_4 ⟨fun _ => ⟨rfl, rfl⟩, fun y => absurd rfl y⟩
    | succ f ih =>
      intro v m hv hb
      refine gX10_ones_4 ⟨fun y => ?_, fun y => ?_⟩
      · have e := (nI_z hb).mp y
        subst e
        exact ⟨rfl, rfl⟩
      · have e : ¬ v = 0 := fun z => y ((nI_z hb).mpr z)
        have l : v &&& (v - 1) ≤ v - 1 := Nat.and_le_right
        have z := ih (v &&& (v - 1)) (m + 1) (by omega) (by omega)
        have es : onN (f + 1) v = onN f (v &&& (v - 1)) + 1 := by show (if v = 0 then 0 else _) = _; rw [if_neg e]
        rw [es, show m + (onN f (v &&& (v - 1)) + 1) = m + 1 + onN f (v &&& (v - 1)) by omega]
        refine td_to z ?_ rfl rfl
        rw [nI_1, show (1 : Int32) = nI 1 from rfl, pk_sub (a := v) (b := 1) (by omega), fa_and]
  have z := loop x.toBitVec.toNat x.toBitVec.toNat 0 (Nat.le_refl _) x.toBitVec.isLt
  rw [← nI_32 x, Nat.zero_add] at z
  exact z
theorem on_2 : ∀ a, a < 64 → ∀ b, b < 64 → onN (64 * a + b) (64 * a + b) = fb_ct (fun i => (64 * a + b).testBit i) 12 := by decide +kernel
theorem on_v {v : Nat} (h : v < 4096) : onN (nI v).toBitVec.toNat (nI v).toBitVec.toNat = popc v := by
  have e3 : (nI v).toBitVec.toNat = v := by
    show (BitVec.ofNat 32 v).toNat = v
    rw [BitVec.toNat_ofNat, Nat.mod_eq_of_lt (by omega)]
  rw [e3]
  have z := on_2 (v / 64) (by omega) (v % 64) (by omega)
  rw [show 64 * (v / 64) + v % 64 = v by omega] at z
  exact z
/-! asTold -/
set_option maxRecDepth 20000 in
set_option maxHeartbeats 4000000 in
theorem gX10_asTold_0 {G : td_G} {d : Nat} {Post : td_P} {h : td_H} (K : td_J G (d + 1) mX10_asTold Post 2 [(0, .ref 85), (1, .int 0)] [] h) : td_J G (d + 1) mX10_asTold Post 0 [(0, .ref 85)] [] h := by
  refine td_iconst (v := 0) dX10_asTold_0 (by decide) ?_
  refine td_istore_n (lv2 := [(0, .ref 85), (1, .int 0)]) dX10_asTold_1 (by decide) rfl ?_
  exact K
set_option maxRecDepth 20000 in
set_option maxHeartbeats 4000000 in
theorem gX10_asTold_2 {G : td_G} {d : Nat} {Post : td_P} {x1 : Int32} {h : td_H} (K : (8 < x1 → td_J G (d + 1) mX10_asTold Post 34 [(0, .ref 85), (1, .int 0)] [] (hu h 85 2 (-4))) ∧ (¬ 8 < x1 → (vp_in x1 46 ∧ (vp_in x1 9 ∧ (td_J G (d + 1) mX10_asTold Post 2 [(0, .ref 85), (1, .int (x1 + 1))] [] (hu h 87 (ix x1) (h 86 (ix x1)))))))) : td_J G (d + 1) mX10_asTold Post 2 [(0, .ref 85), (1, .int x1)] [] h := by
  refine td_iload_n 1 dX10_asTold_2 rfl ?_
  refine td_bipush (v := 8) dX10_asTold_3 (by decide) ?_
  obtain ⟨Kt, Kf⟩ := K
  refine td_icmp_gt (tgt := 26) dX10_asTold_5 (by decide) (fun q5 => ?_) (fun q5 => ?_)
  · have K := Kt q5
    refine td_aload_n 0 dX10_asTold_26 rfl ?_
    refine td_bipush (v := (-4)) dX10_asTold_27 (by decide) ?_
    refine pf_X10_90 rfl kp_85 dX10_asTold_29 ?_
    refine td_iconst (v := 0) dX10_asTold_32 (by decide) ?_
    refine td_istore_n (lv2 := [(0, .ref 85), (1, .int 0)]) dX10_asTold_33 (by decide) rfl ?_
    exact K
  · have K := Kf q5
    refine td_aload_n 0 dX10_asTold_8 rfl ?_
    refine gf_X10_13 rfl kp_85 dX10_asTold_9 ?_
    refine td_iload_n 1 dX10_asTold_12 rfl ?_
    refine td_aload_n 0 dX10_asTold_13 rfl ?_
    refine gf_X10_7 rfl kp_85 dX10_asTold_14 ?_
    refine td_iload_n 1 dX10_asTold_17 rfl ?_
    obtain ⟨e18, K⟩ := K
    refine td_ialdc (j := (ix x1)) kp_86 (by decide) e18 rfl dX10_asTold_18 ?_
    obtain ⟨e19, K⟩ := K
    refine td_iastc (j := (ix x1)) kp_87 (by decide) e19 rfl dX10_asTold_19 ?_
    refine td_iinc 1 (v := x1 + 1) (lv2 := [(0, .ref 85), (1, .int (x1 + 1))]) dX10_asTold_20 rfl (congrArg (x1 + ·) (by decide)) (by decide) rfl ?_
    refine td_goto (tgt := 2) dX10_asTold_23 (by decide) ?_
    exact K
set_option maxRecDepth 20000 in
set_option maxHeartbeats 4000000 in
theorem gX10_asTold_34 {G : td_G} {d : Nat} {Post : td_P} {x1 : Int32} {h : td_H} (K : ((h 86 9) ≤ x1 → (Post none h)) ∧ (¬ (h 86 9) ≤ x1 → (vp_in ((10 + (3 * x1)) + 0) 46 ∧ (vp_in x1 12 ∧ (td_J G (d + 1) mX10_asTold Post 34 [(0, .ref 85), (1, .int (x1 + 1))] [] (hu h 88 (ix x1) (h 86 (ix ((10 + (3 * x1)) + 0))))))))) : td_J G (d + 1) mX10_asTold Post 34 [(0, .ref 85), (1, .int x1)] [] h := by
  refine td_iload_n 1 dX10_asTold_34 rfl ?_
  refine td_aload_n 0 dX10_asTold_35 rfl ?_
  refine gf_X10_7 rfl kp_85 dX10_asTold_36 ?_
  refine td_bipush (v := 9) dX10_asTold_39 (by decide) ?_
  refine td_ialdc (j := 9) kp_86 (by decide) (by unfold vp_in; decide) (by decide) dX10_asTold_41 ?_
  obtain ⟨Kt, Kf⟩ := K
  refine td_icmp_ge (tgt := 63) dX10_asTold_42 (by decide) (fun q42 => ?_) (fun q42 => ?_)
  · have K := Kt q42
    exact td_return rfl dX10_asTold_63 K
  · have K := Kf q42
    refine td_aload_n 0 dX10_asTold_45 rfl ?_
    refine gf_X10_16 rfl kp_85 dX10_asTold_46 ?_
    refine td_iload_n 1 dX10_asTold_49 rfl ?_
    refine td_aload_n 0 dX10_asTold_50 rfl ?_
    refine td_iload_n 1 dX10_asTold_51 rfl ?_
    refine td_iconst (v := 0) dX10_asTold_52 (by decide) ?_
    obtain ⟨e53_0, K⟩ := K
    refine cl_X10_94 rfl kp_85 dX10_asTold_53 (Nat.le_of_ble_eq_true rfl) (c_of x1 0 e53_0) (eR_k ?_)
    refine td_eqs (st2 := [.int (h 86 (ix ((10 + (3 * x1)) + 0))), .int x1, .ref 88]) rfl ?_
    obtain ⟨e56, K⟩ := K
    refine td_iastc (j := (ix x1)) kp_88 (by decide) e56 rfl dX10_asTold_56 ?_
    refine td_iinc 1 (v := x1 + 1) (lv2 := [(0, .ref 85), (1, .int (x1 + 1))]) dX10_asTold_57 rfl (congrArg (x1 + ·) (by decide)) (by decide) rfl ?_
    refine td_goto (tgt := 34) dX10_asTold_60 (by decide) ?_
    exact K
def FrA (h h' : td_H) : Prop := ∀ a b, ¬ ((a = 85 ∧ b = 2) ∨ a = 87 ∨ a = 88) → h' a b = h a b
theorem FrA.N {h h' : td_H} (x : FrA h h') : FrN h h' := fun a b n => x a b (fun z => n (by unfold qR; omega))
theorem c_asTold {G : td_G} {d : Nat} {h : td_H} (c : nH) (hw : wfC c) (h5 : 12 ≤ c 5 0) (hZ : mZ c 86 h) : td_C G (d + 1) mX10_asTold [.ref 85] h (fun r h' => r = none ∧ FrA h h' ∧ rmC c h') := by
  refine td_entry rfl (Nat.le_of_ble_eq_true rfl) rfl (gX10_asTold_0 ?_)
  have hn := hw.n
  refine td_forH 9 (fun i => [(0, .ref 85), (1, .int (nI i))]) (fun i h1 => FrA h h1 ∧ ∀ j, j < i → h1 87 j = nI (c 0 j)) rfl ⟨fun _ _ _ => rfl, fun j hj => absurd hj (by omega)⟩ (fun i hi h1 hI ih => ?_) (fun h1 hI => ?_)
  · obtain ⟨hF, h87⟩ := hI
    refine gX10_asTold_2 ⟨fun y => absurd (lt_of (a := 8) y) (by omega), fun _ => ⟨vp_in_nI (by omega) (by decide), vp_in_nI hi (by decide), ?_⟩⟩
    rw [ixn (i := i) (by omega), hF 86 i (by omega), hZ.1 i hi]
    refine td_to (ih _ ⟨fun a b z => ?_, fun j hj => ?_⟩) (by rw [nI_1]) rfl rfl
    · rw [hu_app, if_neg (by omega)]; exact hF a b z
    · rw [hu_app]
      by_cases e : j = i
      · rw [if_pos ⟨rfl, e⟩, e]
      · rw [if_neg (fun w => e w.2)]; exact h87 j (by omega)
  · obtain ⟨hF, h87⟩ := hI
    refine gX10_asTold_2 ⟨fun _ => ?_, fun y => absurd (nlt_of (a := 8) (b := 9) y) (by omega)⟩
    refine td_forH (c 1 0) (fun i => [(0, .ref 85), (1, .int (nI i))]) (fun p h2 => FrA h h2 ∧ h2 85 2 = -4 ∧ (∀ j, j < 9 → h2 87 j = nI (c 0 j)) ∧ ∀ j, j < p → h2 88 j = nI (c 4 j)) rfl ⟨fun a b z => ?_, ?_, fun j hj => ?_, fun j hj => absurd hj (by omega)⟩ (fun p hp h2 hI2 ih => ?_) (fun h2 hI2 => ?_)
    · rw [hu_app, if_neg (by omega)]; exact hF a b z
    · rw [hu_app, if_pos ⟨rfl, rfl⟩]
    · rw [hu_app, if_neg (by omega)]; exact h87 j hj
    · obtain ⟨hF2, h852, h872, h88⟩ := hI2
      have e9 : h2 86 9 = nI (c 1 0) := (hF2 86 9 (by omega)).trans hZ.2.1
      refine gX10_asTold_34 ?_
      have ei : ix ((10 + (3 * nI p)) + 0) = 10 + 3 * p := of_ix (p := p) (by omega) (w := 0) (by decide)
      rw [e9, ei, ixn (i := p) (by omega), hF2 86 _ (by omega), (hZ.2.2 p hp).1]
      refine ⟨fun y => absurd (le_of y) (by omega), fun _ => ⟨of_in (p := p) (by omega) (w := 0) (by decide), vp_in_nI (by omega) (by decide), ?_⟩⟩
      refine td_to (ih _ ⟨fun a b z => ?_, ?_, fun j hj => ?_, fun j hj => ?_⟩) (by rw [nI_1]) rfl rfl
      · rw [hu_app, if_neg (by omega)]; exact hF2 a b z
      · rw [hu_app, if_neg (by omega)]; exact h852
      · rw [hu_app, if_neg (by omega)]; exact h872 j hj
      · rw [hu_app]
        by_cases e : j = p
        · rw [if_pos ⟨rfl, e⟩, e]
        · rw [if_neg (fun w => e w.2)]; exact h88 j (by omega)
    · obtain ⟨hF2, h852, h872, h88⟩ := hI2
      have e9 : h2 86 9 = nI (c 1 0) := (hF2 86 9 (by omega)).trans hZ.2.1
      refine gX10_asTold_34 ?_
      rw [e9]
      refine ⟨fun _ => ⟨rfl, hF2, hw, h872, e9, fun p hp => ?_, ?_⟩, fun y => absurd (nle_of y) (by omega)⟩
      · rw [hF2 86 _ (by omega), hF2 86 _ (by omega)]
        exact ⟨(hZ.2.2 p hp).2.1, (hZ.2.2 p hp).2.2, h88 p hp⟩
      · rw [h852, if_neg (by omega)]
/-! what a run leaves -/
abbrev tau (c : nH) : nH := sEndK c (sRun c 120) (c 1 0)
theorem tau_o (c : nH) (t a b : Nat) (h : a ≠ 4) : sEndK c (sRun c t) (c 1 0) a b = sRun c t a b := by unfold sEndK; rw [if_neg (fun z => h z.2.1)]
theorem tau_4 (c : nH) {p : Nat} (hp : p < c 1 0) : tau c 4 p = waitE c (sRun c 120) p := by
  unfold tau sEndK waitE
  by_cases z : sRun c 120 0 p = 1
  · rw [if_pos ⟨hp, rfl, z⟩, if_pos z]
  · rw [if_neg (fun w => z w.2.2), if_neg z]
set_option maxRecDepth 20000 in
set_option maxHeartbeats 4000000 in
theorem gX10_lastThrough_0 {G : td_G} {d : Nat} {Post : td_P} {h : td_H} (K : td_J G d mX10_lastThrough Post 4 [(0, .ref 85), (1, .int 0), (2, .int 0)] [] h) : td_J G d mX10_lastThrough Post 0 [(0, .ref 85)] [] h := by
  refine td_iconst (v := 0) dX10_lastThrough_0 (by decide) ?_
  refine td_istore_n (lv2 := [(0, .ref 85), (1, .int 0)]) dX10_lastThrough_1 (by decide) rfl ?_
  refine td_iconst (v := 0) dX10_lastThrough_2 (by decide) ?_
  refine td_istore_n (lv2 := [(0, .ref 85), (1, .int 0), (2, .int 0)]) dX10_lastThrough_3 (by decide) rfl ?_
  exact K
set_option maxRecDepth 20000 in
set_option maxHeartbeats 4000000 in
theorem gX10_lastThrough_4 {G : td_G} {d : Nat} {Post : td_P} {x1 x2 : Int32} {h : td_H} (K : ((h 86 9) ≤ x2 → (Post (some (.int x1)) h)) ∧ (¬ (h 86 9) ≤ x2 → ((¬ x2 = (h 85 2) → (vp_in x2 12 ∧ True)) ∧ (td_J G d mX10_lastThrough Post 4 [(0, .ref 85), (1, .int (if (if x2 = (h 85 2) then 0 else if 0 ≤ (h 94 (ix x2)) then (h 94 (ix x2)) else 120 : Int32) ≤ x1 then x1 else (if x2 = (h 85 2) then 0 else if 0 ≤ (h 94 (ix x2)) then (h 94 (ix x2)) else 120 : Int32) : Int32)), (2, .int (x2 + 1))] [] h)))) : td_J G d mX10_lastThrough Post 4 [(0, .ref 85), (1, .int x1), (2, .int x2)] [] h := by
  refine td_iload_n 2 dX10_lastThrough_4 rfl ?_
  refine td_aload_n 0 dX10_lastThrough_5 rfl ?_
  refine gf_X10_7 rfl kp_85 dX10_lastThrough_6 ?_
  refine td_bipush (v := 9) dX10_lastThrough_9 (by decide) ?_
  refine td_ialdc (j := 9) kp_86 (by decide) (by unfold vp_in; decide) (by decide) dX10_lastThrough_11 ?_
  obtain ⟨Kt, Kf⟩ := K
  refine td_icmp_ge (tgt := 65) dX10_lastThrough_12 (by decide) (fun q12 => ?_) (fun q12 => ?_)
  · have K := Kt q12
    refine td_iload_n 1 dX10_lastThrough_65 rfl ?_
    exact td_ireturn rfl dX10_lastThrough_66 K
  · have K := Kf q12
    refine td_iload_n 2 dX10_lastThrough_15 rfl ?_
    refine td_aload_n 0 dX10_lastThrough_16 rfl ?_
    refine gf_X10_90 rfl kp_85 dX10_lastThrough_17 ?_
    obtain ⟨Ks20, K⟩ := K
    have KJ47 : td_J G d mX10_lastThrough Post 47 [(0, .ref 85), (1, .int x1), (2, .int x2)] [.int (if x2 = (h 85 2) then 0 else if 0 ≤ (h 94 (ix x2)) then (h 94 (ix x2)) else 120 : Int32)] h := by
      refine td_istore_n (lv2 := [(0, .ref 85), (1, .int x1), (2, .int x2), (3, .int (if x2 = (h 85 2) then 0 else if 0 ≤ (h 94 (ix x2)) then (h 94 (ix x2)) else 120 : Int32))]) dX10_lastThrough_47 (by decide) rfl ?_
      refine td_iload_n 3 dX10_lastThrough_48 rfl ?_
      refine td_iload_n 1 dX10_lastThrough_49 rfl ?_
      have KJ58 : td_J G d mX10_lastThrough Post 58 [(0, .ref 85), (1, .int x1), (2, .int x2), (3, .int (if x2 = (h 85 2) then 0 else if 0 ≤ (h 94 (ix x2)) then (h 94 (ix x2)) else 120 : Int32))] [.int (if (if x2 = (h 85 2) then 0 else if 0 ≤ (h 94 (ix x2)) then (h 94 (ix x2)) else 120 : Int32) ≤ x1 then x1 else (if x2 = (h 85 2) then 0 else if 0 ≤ (h 94 (ix x2)) then (h 94 (ix x2)) else 120 : Int32) : Int32)] h := by
        refine td_istore_n (lv2 := [(0, .ref 85), (1, .int (if (if x2 = (h 85 2) then 0 else if 0 ≤ (h 94 (ix x2)) then (h 94 (ix x2)) else 120 : Int32) ≤ x1 then x1 else (if x2 = (h 85 2) then 0 else if 0 ≤ (h 94 (ix x2)) then (h 94 (ix x2)) else 120 : Int32) : Int32)), (2, .int x2), (3, .int (if x2 = (h 85 2) then 0 else if 0 ≤ (h 94 (ix x2)) then (h 94 (ix x2)) else 120 : Int32))]) dX10_lastThrough_58 (by decide) rfl ?_
        refine td_iinc 2 (v := x2 + 1) (lv2 := [(0, .ref 85), (1, .int (if (if x2 = (h 85 2) then 0 else if 0 ≤ (h 94 (ix x2)) then (h 94 (ix x2)) else 120 : Int32) ≤ x1 then x1 else (if x2 = (h 85 2) then 0 else if 0 ≤ (h 94 (ix x2)) then (h 94 (ix x2)) else 120 : Int32) : Int32)), (2, .int (x2 + 1)), (3, .int (if x2 = (h 85 2) then 0 else if 0 ≤ (h 94 (ix x2)) then (h 94 (ix x2)) else 120 : Int32))]) dX10_lastThrough_59 rfl (congrArg (x2 + ·) (by decide)) (by decide) rfl ?_
        refine td_goto (tgt := 4) dX10_lastThrough_62 (by decide) ?_
        refine td_drop (lv2 := [(0, .ref 85), (1, .int (if (if x2 = (h 85 2) then 0 else if 0 ≤ (h 94 (ix x2)) then (h 94 (ix x2)) else 120 : Int32) ≤ x1 then x1 else (if x2 = (h 85 2) then 0 else if 0 ≤ (h 94 (ix x2)) then (h 94 (ix x2)) else 120 : Int32) : Int32)), (2, .int (x2 + 1))]) [0, 1, 2] rfl ?_
        exact K
      refine td_icmp_le (tgt := 57) dX10_lastThrough_50 (by decide) (fun q50 => ?_) (fun q50 => ?_)
      · skip
        refine td_iload_n 1 dX10_lastThrough_57 rfl ?_
        exact td_to KJ58 rfl (by rw [show (if (if x2 = (h 85 2) then 0 else if 0 ≤ (h 94 (ix x2)) then (h 94 (ix x2)) else 120 : Int32) ≤ x1 then x1 else (if x2 = (h 85 2) then 0 else if 0 ≤ (h 94 (ix x2)) then (h 94 (ix x2)) else 120 : Int32) : Int32) = _ from if_pos q50]) rfl
      · skip
        refine td_iload_n 3 dX10_lastThrough_53 rfl ?_
        refine td_goto (tgt := 58) dX10_lastThrough_54 (by decide) ?_
        exact td_to KJ58 rfl (by rw [show (if (if x2 = (h 85 2) then 0 else if 0 ≤ (h 94 (ix x2)) then (h 94 (ix x2)) else 120 : Int32) ≤ x1 then x1 else (if x2 = (h 85 2) then 0 else if 0 ≤ (h 94 (ix x2)) then (h 94 (ix x2)) else 120 : Int32) : Int32) = _ from if_neg q50]) rfl
    refine td_icmp_ne (tgt := 27) dX10_lastThrough_20 (by decide) (fun q20 => ?_) (fun q20 => ?_)
    · have K := Ks20 q20
      refine td_aload_n 0 dX10_lastThrough_27 rfl ?_
      refine gf_X10_34 rfl kp_85 dX10_lastThrough_28 ?_
      refine td_iload_n 2 dX10_lastThrough_31 rfl ?_
      obtain ⟨e32, K⟩ := K
      refine td_ialdc (j := (ix x2)) kp_94 (by decide) e32 rfl dX10_lastThrough_32 ?_
      refine td_if_ge (tgt := 41) dX10_lastThrough_33 (by decide) (fun q33 => ?_) (fun q33 => ?_)
      · skip
        refine td_aload_n 0 dX10_lastThrough_41 rfl ?_
        refine gf_X10_34 rfl kp_85 dX10_lastThrough_42 ?_
        refine td_iload_n 2 dX10_lastThrough_45 rfl ?_
        refine td_ialdc (j := (ix x2)) kp_94 (by decide) e32 rfl dX10_lastThrough_46 ?_
        exact td_to KJ47 rfl (by rw [show (if x2 = (h 85 2) then 0 else if 0 ≤ (h 94 (ix x2)) then (h 94 (ix x2)) else 120 : Int32) = _ from (if_neg q20).trans (if_pos q33)]) rfl
      · skip
        refine td_bipush (v := 120) dX10_lastThrough_36 (by decide) ?_
        refine td_goto (tgt := 47) dX10_lastThrough_38 (by decide) ?_
        exact td_to KJ47 rfl (by rw [show (if x2 = (h 85 2) then 0 else if 0 ≤ (h 94 (ix x2)) then (h 94 (ix x2)) else 120 : Int32) = _ from (if_neg q20).trans (if_neg q33)]) rfl
    · skip
      refine td_iconst (v := 0) dX10_lastThrough_23 (by decide) ?_
      refine td_goto (tgt := 47) dX10_lastThrough_24 (by decide) ?_
      exact td_to KJ47 rfl (by rw [show (if x2 = (h 85 2) then 0 else if 0 ≤ (h 94 (ix x2)) then (h 94 (ix x2)) else 120 : Int32) = _ from if_pos q20]) rfl
set_option maxRecDepth 20000 in
set_option maxHeartbeats 4000000 in
theorem gX10_allWaits_0 {G : td_G} {d : Nat} {Post : td_P} {h : td_H} (K : td_J G d mX10_allWaits Post 4 [(0, .ref 85), (1, .int 0), (2, .int 0)] [] h) : td_J G d mX10_allWaits Post 0 [(0, .ref 85)] [] h := by
  refine td_iconst (v := 0) dX10_allWaits_0 (by decide) ?_
  refine td_istore_n (lv2 := [(0, .ref 85), (1, .int 0)]) dX10_allWaits_1 (by decide) rfl ?_
  refine td_iconst (v := 0) dX10_allWaits_2 (by decide) ?_
  refine td_istore_n (lv2 := [(0, .ref 85), (1, .int 0), (2, .int 0)]) dX10_allWaits_3 (by decide) rfl ?_
  exact K
set_option maxRecDepth 20000 in
set_option maxHeartbeats 4000000 in
theorem gX10_allWaits_4 {G : td_G} {d : Nat} {Post : td_P} {x1 x2 : Int32} {h : td_H} (K : ((h 86 9) ≤ x2 → (Post (some (.int x1)) h)) ∧ (¬ (h 86 9) ≤ x2 → (vp_in x2 12 ∧ (td_J G d mX10_allWaits Post 4 [(0, .ref 85), (1, .int (x1 + (h 95 (ix x2)))), (2, .int (x2 + 1))] [] h)))) : td_J G d mX10_allWaits Post 4 [(0, .ref 85), (1, .int x1), (2, .int x2)] [] h := by
  refine td_iload_n 2 dX10_allWaits_4 rfl ?_
  refine td_aload_n 0 dX10_allWaits_5 rfl ?_
  refine gf_X10_7 rfl kp_85 dX10_allWaits_6 ?_
  refine td_bipush (v := 9) dX10_allWaits_9 (by decide) ?_
  refine td_ialdc (j := 9) kp_86 (by decide) (by unfold vp_in; decide) (by decide) dX10_allWaits_11 ?_
  obtain ⟨Kt, Kf⟩ := K
  refine td_icmp_ge (tgt := 30) dX10_allWaits_12 (by decide) (fun q12 => ?_) (fun q12 => ?_)
  · have K := Kt q12
    refine td_iload_n 1 dX10_allWaits_30 rfl ?_
    exact td_ireturn rfl dX10_allWaits_31 K
  · have K := Kf q12
    refine td_iload_n 1 dX10_allWaits_15 rfl ?_
    refine td_aload_n 0 dX10_allWaits_16 rfl ?_
    refine gf_X10_37 rfl kp_85 dX10_allWaits_17 ?_
    refine td_iload_n 2 dX10_allWaits_20 rfl ?_
    obtain ⟨e21, K⟩ := K
    refine td_ialdc (j := (ix x2)) kp_95 (by decide) e21 rfl dX10_allWaits_21 ?_
    refine td_iadd dX10_allWaits_22 ?_
    refine td_istore_n (lv2 := [(0, .ref 85), (1, .int (x1 + (h 95 (ix x2)))), (2, .int x2)]) dX10_allWaits_23 (by decide) rfl ?_
    refine td_iinc 2 (v := x2 + 1) (lv2 := [(0, .ref 85), (1, .int (x1 + (h 95 (ix x2)))), (2, .int (x2 + 1))]) dX10_allWaits_24 rfl (congrArg (x2 + ·) (by decide)) (by decide) rfl ?_
    refine td_goto (tgt := 4) dX10_allWaits_27 (by decide) ?_
    exact K
theorem nn_120 {v : Nat} (h : v ≤ 120) : (if 0 ≤ nn v then nn v else (120 : Int32)) = nI v := by
  unfold nn
  by_cases e : v = 120
  · rw [if_pos e, if_neg (by decide), e]; rfl
  · rw [if_neg e, if_pos (show (0 : Int32) ≤ nI v from (nI_leI (a := 0) (by decide) (by omega)).mpr (Nat.zero_le v))]
theorem mxN_s (f : Nat → Nat) (n : Nat) : mxN f (n + 1) = if f n ≤ mxN f n then mxN f n else f n := by
  show (if mxN f n < f n then f n else mxN f n) = _
  by_cases z : f n ≤ mxN f n
  · rw [if_pos z, if_neg (by omega)]
  · rw [if_neg z, if_pos (by omega)]
theorem n_m4 {p : Nat} (h : p < 12) : ¬ nI p = -4 := (by decide +kernel : ∀ p, p < 12 → ¬ nI p = -4) p h
theorem c_lastT {G : td_G} {d : Nat} {h : td_H} (c : nH) (h5 : 12 ≤ c 5 0) (hc : rmC c h) (hs : rmS (tau c) h) : td_C G d mX10_lastThrough [.ref 85] h (eR (nI (lastE c)) h) := by
  have hn := hc.1.n
  have e5 : h 85 2 = -4 := by rw [hc.2.2.2.2, if_neg (by omega)]
  refine td_entry rfl (Nat.le_of_ble_eq_true rfl) rfl (gX10_lastThrough_0 ?_)
  refine td_for (c 1 0) (fun i => [(0, .ref 85), (1, .int (nI (mxN (fun p => sRun c 120 3 p) i))), (2, .int (nI i))]) (fun _ => h) rfl rfl (fun i hi ih => ?_) ?_
  · refine gX10_lastThrough_4 ?_
    have e94 : h 94 i = nn (sRun c 120 3 i) := by rw [← tau_o c 120 3 i (by decide)]; exact (hs.1 i (by omega)).2.2.2.1
    rw [hc.2.2.1, e5, ixn (i := i) (by omega), e94, if_neg (n_m4 (by omega)), nn_120 (end_le hn hi)]
    refine ⟨fun y => absurd (le_of y) (by omega), fun _ => ⟨fun _ => ⟨vp_in_nI (by omega) (by decide), trivial⟩, td_to ih ?_ rfl rfl⟩⟩
    have m1 : mxN (fun p => sRun c 120 3 p) i < 121 := mxN_lt (by decide) (fun p hp => by have := end_le hn (p := p) (by omega); omega)
    have m2 := end_le hn hi
    rw [nI_1, ite_c (nI_leI (by omega) (by omega)), nI_ite, ← mxN_s (fun p => sRun c 120 3 p) i]
  · refine gX10_lastThrough_4 ?_
    rw [hc.2.2.1]
    exact ⟨fun _ => ⟨rfl, rfl⟩, fun y => absurd (nle_of y) (by omega)⟩
theorem c_allW {G : td_G} {d : Nat} {h : td_H} (c : nH) (hc : rmC c h) (hs : rmS (tau c) h) : td_C G d mX10_allWaits [.ref 85] h (eR (nI (wE c)) h) := by
  have hn := hc.1.n
  refine td_entry rfl (Nat.le_of_ble_eq_true rfl) rfl (gX10_allWaits_0 ?_)
  refine td_for (c 1 0) (fun i => [(0, .ref 85), (1, .int (nI (fb_sm (fun p => waitE c (sRun c 120) p) i))), (2, .int (nI i))]) (fun _ => h) rfl rfl (fun i hi ih => ?_) ?_
  · refine gX10_allWaits_4 ?_
    have e95 : h 95 i = nI (waitE c (sRun c 120) i) := by rw [← tau_4 c hi]; exact (hs.1 i (by omega)).2.2.2.2.1
    rw [hc.2.2.1, ixn (i := i) (by omega), e95, nI_add]
    exact ⟨fun y => absurd (le_of y) (by omega), fun _ => ⟨vp_in_nI (by omega) (by decide), td_to ih (by rw [nI_1]; rfl) rfl rfl⟩⟩
  · refine gX10_allWaits_4 ?_
    rw [hc.2.2.1]
    exact ⟨fun _ => ⟨rfl, rfl⟩, fun y => absurd (nle_of y) (by omega)⟩
