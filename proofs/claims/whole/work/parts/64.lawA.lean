/-! ===== BETWEEN CALLS: plan, image, tape, sheets; the door's side ===== -/
abbrev gS : Type := nH × Option nH × (Nat × (Nat → Nat)) × (Nat → Nat → Int32)
def kpD (o : Option nH) (h : td_H) : Prop := match o with
  | none => h 0 7 = 0
  | some g2 => h 0 7 = 1 ∧ dP g2 6 h ∧ 12 ≤ g2 5 0
def shD (S : Nat → Nat → Int32) (h : td_H) : Prop := ∀ s, s < 4 → h (77 + 2 * s) 1 = S s 0 ∧ h (77 + 2 * s) 2 = S s 1 ∧ ∀ i, i < 16 → h (77 + 2 * s + 1) i = S s (2 + i)
def shW (S : Nat → Nat → Int32) : Prop := ∀ s, s < 4 → (S s 0 = -1 ∨ vp_in (S s 0) 3) ∧ ∃ n, n ≤ 16 ∧ S s 1 = nI n
def DIa (s : gS) (h : td_H) : Prop := dP s.1 1 h ∧ 12 ≤ s.1 5 0 ∧ kpD s.2.1 h ∧ tD s.2.2.1.1 s.2.2.1.2 h ∧ shD s.2.2.2 h ∧ shW s.2.2.2 ∧ dKn 18 h ∧ dKn 50 h
def DIc (g : nH) (h : td_H) : Prop := (h 0 8 = 0 ∨ (h 0 8 = 1 ∧ plI g h)) ∧ moI g h ∧ (h 43 8 = 0 ∨ (h 43 8 = 1 ∧ doI g 18 h)) ∧ (h 43 9 = 0 ∨ (h 43 9 = 1 ∧ enI g 189 h)) ∧ orI g h
def DI (s : gS) (h : td_H) : Prop := DIa s h ∧ DIc s.1 h
def FM (h h' : td_H) : Prop := ∀ a b, 85 ≤ a → h' a b = h a b
def dPost (v : Int32) (s : gS) (h : td_H) : td_P := fun r h' => r = some (.int v) ∧ DI s h' ∧ FM h h'
theorem dP.fr {c : nH} {q : Nat} {h h' : td_H} (x : dP c q h) (e : ∀ a b, q ≤ a → a ≤ q + 4 → h' a b = h a b) : dP c q h' := by
  obtain ⟨w, a1, a2, a3⟩ := x
  refine ⟨w, fun i hi => ?_, ?_, fun p hp => ?_⟩
  · rw [e _ _ (by omega) (by omega)]; exact a1 i hi
  · rw [e _ _ (by omega) (by omega)]; exact a2
  · rw [e _ _ (by omega) (by omega), e _ _ (by omega) (by omega), e _ _ (by omega) (by omega)]; exact a3 p hp
theorem kpD.fr {o : Option nH} {h h' : td_H} (x : kpD o h) (e0 : h' 0 7 = h 0 7) (e : ∀ a b, 6 ≤ a → a ≤ 10 → h' a b = h a b) : kpD o h' := by
  cases o with
  | none => exact e0.trans x
  | some g2 => exact ⟨e0.trans x.1, x.2.1.fr e, x.2.2⟩
theorem shD.fr {S : Nat → Nat → Int32} {h h' : td_H} (x : shD S h) (e : ∀ a b, 77 ≤ a → a ≤ 84 → h' a b = h a b) : shD S h' := fun s hs => by
  obtain ⟨a1, a2, a3⟩ := x s hs
  exact ⟨(e _ _ (by omega) (by omega)).trans a1, (e _ _ (by omega) (by omega)).trans a2, fun i hi => (e _ _ (by omega) (by omega)).trans (a3 i hi)⟩
/-- what the rest changes is not what is between calls -/
def regA (a b : Nat) : Prop := (1 ≤ a ∧ a ≤ 10) ∨ (a = 0 ∧ b = 7) ∨ (a = 11 ∧ b = 4) ∨ a = 12 ∨ (77 ≤ a ∧ a ≤ 84)
theorem DIa.fr {s : gS} {h h' : td_H} (x : DIa s h) (e : ∀ a b, regA a b → h' a b = h a b) (k1 : dKn 18 h') (k2 : dKn 50 h') : DIa s h' := by
  obtain ⟨a1, a2, a3, a4, a5, a6, -, -⟩ := x
  refine ⟨a1.fr (fun a b _ _ => e a b (by unfold regA; omega)), a2, a3.fr (e _ _ (by unfold regA; omega)) (fun a b _ _ => e a b (by unfold regA; omega)), a4.fr (fun a b z => e a b (by unfold regA; omega)), a5.fr (fun a b _ _ => e a b (by unfold regA; omega)), a6, k1, k2⟩
theorem DIc.fg (g : nH) (h : td_H) : DIc g (fgH h) := by
  unfold fgH
  refine ⟨Or.inl ?_, ⟨0, by decide, ?_, fun m hm => absurd hm (by omega)⟩, Or.inl ?_, Or.inl ?_, Or.inl ?_⟩
  · rw [hu_app, if_neg (by omega), hu_app, if_neg (by omega), hu_app, if_neg (by omega), hu_app, if_neg (by omega), hu_app, if_pos ⟨rfl, rfl⟩]
  · rw [hu_app, if_neg (by omega), hu_app, if_neg (by omega), hu_app, if_neg (by omega), hu_app, if_pos ⟨rfl, rfl⟩]; rfl
  · rw [hu_app, if_neg (by omega), hu_app, if_neg (by omega), hu_app, if_pos ⟨rfl, rfl⟩]
  · rw [hu_app, if_neg (by omega), hu_app, if_pos ⟨rfl, rfl⟩]
  · rw [hu_app, if_pos ⟨rfl, rfl⟩]
theorem fgH_o (h : td_H) {a b : Nat} (n : ¬ ((a = 0 ∧ b = 8) ∨ (a = 43 ∧ (b = 7 ∨ b = 8 ∨ b = 9)) ∨ (a = 69 ∧ b = 4))) : fgH h a b = h a b := by
  unfold fgH
  rw [hu_app, if_neg (by omega), hu_app, if_neg (by omega), hu_app, if_neg (by omega), hu_app, if_neg (by omega), hu_app, if_neg (by omega)]
/-- a new plan, and all is forgotten -/
theorem DI.plan {s : gS} {h h1 : td_H} (x : DI s h) (g' : nH) (h5 : 12 ≤ g' 5 0) (hP : dP g' 1 h1) (e : ∀ a b, ¬ (1 ≤ a ∧ a ≤ 5) → h1 a b = h a b) : DI (g', s.2) (fgH h1) ∧ FM h (fgH h1) := by
  obtain ⟨⟨a1, a2, a3, a4, a5, a6, a7, a8⟩, -⟩ := x
  have o : ∀ a b, ¬ (1 ≤ a ∧ a ≤ 5) → ¬ ((a = 0 ∧ b = 8) ∨ (a = 43 ∧ (b = 7 ∨ b = 8 ∨ b = 9)) ∨ (a = 69 ∧ b = 4)) → fgH h1 a b = h a b := fun a b n1 n2 => by rw [fgH_o h1 n2]; exact e a b n1
  refine ⟨⟨⟨hP.fr (fun a b _ _ => fgH_o h1 (by omega)), h5, a3.fr (o _ _ (by omega) (by omega)) (fun a b _ _ => o a b (by omega) (by omega)), a4.fr (fun a b z => o a b (by omega) (by omega)), a5.fr (fun a b _ _ => o a b (by omega) (by omega)), a6, a7.fr (fun a b _ _ => o a b (by omega) (by omega)), a8.fr (fun a b _ _ => o a b (by omega) (by omega))⟩, DIc.fg g' h1⟩, fun a b z => o a b (by omega) (by omega)⟩
theorem FM.rf (h : td_H) : FM h h := fun _ _ _ => rfl
theorem bz {p : Prop} [Decidable p] (h : b2i p = 0) : ¬ p := b2i_0.mp h
theorem bnz {p : Prop} [Decidable p] (h : ¬ b2i p = 0) : p := Decidable.byContradiction fun z => h (b2i_0.mpr z)
theorem in_n {x : Int32} {n : Nat} (hn : n < 2 ^ 31) (h : 0 ≤ x ∧ x < nI n) : ∃ k, k < n ∧ x = nI k := vp_in_of ((is_in hn).mp h) hn
/-! set -/
set_option maxRecDepth 20000 in
set_option maxHeartbeats 4000000 in
theorem gX9_set_0 {G : td_G} {d : Nat} {Post : td_P} {x1 x2 : Int32} {h : td_H} (K : ((b2i (0 ≤ x1 ∧ x1 < 9)) = 0 → (Post (some (.int (-1))) h)) ∧ (¬ (b2i (0 ≤ x1 ∧ x1 < 9)) = 0 → (vp_in x1 9 ∧ ((x2 < ((td_st 0).getD (ix x1) 0) → (Post (some (.int (-1))) h)) ∧ (¬ x2 < ((td_st 0).getD (ix x1) 0) → ((x2 ≤ ((td_st 1).getD (ix x1) 0) → (Post (some (.int (h 2 (ix x1)))) (fgH (hu h 2 (ix x1) x2)))) ∧ (¬ x2 ≤ ((td_st 1).getD (ix x1) 0) → (Post (some (.int (-1))) h)))))))) : td_J G (d + 2) mX9_set Post 0 [(0, .ref 0), (1, .int x1), (2, .int x2)] [] h := by
  refine td_iload_n 1 dX9_set_0 rfl ?_
  refine td_bipush (v := 9) dX9_set_1 (by decide) ?_
  refine cl_X9_54 rfl dX9_set_3 (Nat.le_of_ble_eq_true rfl) (c_isIn x1 9) (eR_k ?_)
  refine td_eqs (st2 := [.int (b2i (0 ≤ x1 ∧ x1 < 9))]) rfl ?_
  obtain ⟨Kt, Kf⟩ := K
  refine td_if_eq (tgt := 27) dX9_set_6 (by decide) (fun q6 => ?_) (fun q6 => ?_)
  · have K := Kt q6
    refine td_iconst (v := (-1)) dX9_set_27 (by decide) ?_
    exact td_ireturn rfl dX9_set_28 K
  · have K := Kf q6
    refine td_iload_n 2 dX9_set_9 rfl ?_
    refine gs_X9_58 rfl dX9_set_10 ?_
    refine td_iload_n 1 dX9_set_13 rfl ?_
    obtain ⟨e14, K⟩ := K
    refine td_tic (t := 0) (j := (ix x1)) (by decide) e14 rfl dX9_set_14 ?_
    obtain ⟨Kt, Kf⟩ := K
    refine td_icmp_lt (tgt := 27) dX9_set_15 (by decide) (fun q15 => ?_) (fun q15 => ?_)
    · have K := Kt q15
      refine td_iconst (v := (-1)) dX9_set_27 (by decide) ?_
      exact td_ireturn rfl dX9_set_28 K
    · have K := Kf q15
      refine td_iload_n 2 dX9_set_18 rfl ?_
      refine gs_X9_62 rfl dX9_set_19 ?_
      refine td_iload_n 1 dX9_set_22 rfl ?_
      refine td_tic (t := 1) (j := (ix x1)) (by decide) e14 rfl dX9_set_23 ?_
      obtain ⟨Kt, Kf⟩ := K
      refine td_icmp_le (tgt := 29) dX9_set_24 (by decide) (fun q24 => ?_) (fun q24 => ?_)
      · have K := Kt q24
        refine td_aload_n 0 dX9_set_29 rfl ?_
        refine gf_X9_12 rfl kp_0 dX9_set_30 ?_
        refine gf_X9_65 rfl kp_1 dX9_set_33 ?_
        refine td_iload_n 1 dX9_set_36 rfl ?_
        refine td_ialdc (j := (ix x1)) kp_2 (by decide) e14 rfl dX9_set_37 ?_
        refine td_istore_n (lv2 := [(0, .ref 0), (1, .int x1), (2, .int x2), (3, .int (h 2 (ix x1)))]) dX9_set_38 (by decide) rfl ?_
        refine td_aload_n 0 dX9_set_39 rfl ?_
        refine gf_X9_12 rfl kp_0 dX9_set_40 ?_
        refine gf_X9_65 rfl kp_1 dX9_set_43 ?_
        refine td_iload_n 1 dX9_set_46 rfl ?_
        refine td_iload_n 2 dX9_set_47 rfl ?_
        refine td_iastc (j := (ix x1)) kp_2 (by decide) e14 rfl dX9_set_48 ?_
        refine td_aload_n 0 dX9_set_49 rfl ?_
        refine cl_X9_68 rfl kp_0 dX9_set_50 (Nat.le_of_ble_eq_true rfl) (c_X_forget) (eV_k ?_)
        refine td_eqs (st2 := []) rfl ?_
        refine td_iload_n 3 dX9_set_53 rfl ?_
        exact td_ireturn rfl dX9_set_54 K
      · have K := Kf q24
        refine td_iconst (v := (-1)) dX9_set_27 (by decide) ?_
        exact td_ireturn rfl dX9_set_28 K
def okSet (x v : Int32) : Prop := (0 ≤ x ∧ x < 9) ∧ (td_st 0).getD (ix x) 0 ≤ v ∧ v ≤ (td_st 1).getD (ix x) 0
theorem set_wf {g : nH} (hw : wfC g) {k m : Nat} (hk : k < 9) (h0 : (td_st 0).getD k 0 ≤ nI m) (h1 : nI m ≤ (td_st 1).getD k 0) (hm : m < 2 ^ 31) : wfC (nu g 0 k m) := by
  refine hw.of ?_ (fun a b z _ => by rw [nu_app, if_neg (by omega)])
  obtain ⟨b0, b1, b2, b3, b4, b5, b6, b7, b8⟩ := hw.S
  have lo : ∀ c : Nat, c < 200 → (td_st 0).getD k 0 = nI c → c ≤ m := fun c hc e => by rw [e] at h0; exact le_of h0
  have hi : ∀ c : Nat, c < 200 → (td_st 1).getD k 0 = nI c → m ≤ c := fun c hc e => by rw [e] at h1; exact le_of h1
  unfold wfS
  simp only [nu_app]
  rcases (by omega : k = 0 ∨ k = 1 ∨ k = 2 ∨ k = 3 ∨ k = 4 ∨ k = 5 ∨ k = 6 ∨ k = 7 ∨ k = 8) with z | z | z | z | z | z | z | z | z <;> subst z <;> simp
  · have := lo 3 (by decide) rfl; have := hi 4 (by decide) rfl; omega
  · have := lo 1 (by decide) rfl; have := hi 3 (by decide) rfl; omega
  · have := lo 1 (by decide) rfl; have := hi 6 (by decide) rfl; omega
  · have := hi 20 (by decide) rfl; omega
  · have := lo 1 (by decide) rfl; have := hi 9 (by decide) rfl; omega
  · have := lo 1 (by decide) rfl; have := hi 3 (by decide) rfl; omega
  · have := hi 9 (by decide) rfl; omega
  · have := lo 1 (by decide) rfl; have := hi 9 (by decide) rfl; omega
  · have := hi 120 (by decide) rfl; omega
theorem st_pos {k : Nat} (hk : k < 9) : 0 ≤ (td_st 0).getD k 0 := (by decide +kernel : ∀ k, k < 9 → (0 : Int32) ≤ (td_st 0).getD k 0) k hk
theorem nn_of {x : Int32} (h : 0 ≤ x) : x = nI (ix x) ∧ ix x < 2 ^ 31 := by
  obtain ⟨n, hn, rfl⟩ := nI_of (x := x) (fun z => by rw [fa_le, Int32.toInt_zero] at h; rw [fa_lt, Int32.toInt_zero] at z; omega)
  rw [ixn hn]
  exact ⟨rfl, hn⟩
theorem nu_P {g : nH} {q k m : Nat} {h : td_H} (x : dP g q h) (hk : k < 9) (hw : wfC (nu g 0 k m)) : dP (nu g 0 k m) q (hu h (q + 1) k (nI m)) := by
  refine x.sets hw.S (fun a b z _ => by rw [nu_app, if_neg (by omega)]) (fun i hi => ?_) (fun a b z => by rw [hu_app, if_neg (fun w => z w.1)])
  rw [hu_app, nu_app]
  by_cases z : i = k
  · rw [if_pos ⟨rfl, z⟩, if_pos ⟨rfl, z⟩]
  · rw [if_neg (fun w => z w.2), if_neg (fun w => z w.2)]; exact x.2.1 i hi
theorem D_set {G : td_G} {d : Nat} {h : td_H} {s : gS} (x1 x2 : Int32) (I : DI s h) : (okSet x1 x2 → td_C G (d + 2) mX9_set [.ref 0, .int x1, .int x2] h (dPost (nI (s.1 0 (ix x1))) (nu s.1 0 (ix x1) (ix x2), s.2) h)) ∧ (¬ okSet x1 x2 → td_C G (d + 2) mX9_set [.ref 0, .int x1, .int x2] h (dPost (-1) s h)) := by
  have bad : (some (Value.int (-1)) = some (.int (-1)) ∧ DI s h ∧ FM h h) := ⟨rfl, I, FM.rf h⟩
  refine ⟨fun ok => ?_, fun nk => ?_⟩
  · obtain ⟨k, hk, rfl⟩ := in_n (n := 9) (by decide) ok.1
    have ek : ix (nI k) = k := ixn (by omega)
    obtain ⟨o1, o2, o3⟩ := ok
    rw [ek] at o2 o3
    have hv0 : 0 ≤ x2 := by have := st_pos hk; rw [fa_le] at *; omega
    obtain ⟨ev, hv⟩ := nn_of hv0
    have wf := set_wf I.1.1.1 hk (by rw [← ev]; exact o2) (by rw [← ev]; exact o3) hv
    obtain ⟨I2, F2⟩ := I.plan (h1 := hu h 2 k x2) (nu s.1 0 k (ix x2)) (by rw [nu_app, if_neg (by omega)]; exact I.1.2.1) (by have z := nu_P I.1.1 hk wf; rw [← ev] at z; exact z) (fun a b z => by rw [hu_app, if_neg (by omega)])
    refine td_entry rfl (Nat.le_of_ble_eq_true rfl) rfl (gX9_set_0 ⟨fun y => absurd o1 (bz y), fun _ => ⟨vp_in_nI hk (by decide), ?_⟩⟩)
    rw [ek]
    refine ⟨fun y => ?_, fun _ => ⟨fun _ => ⟨?_, I2, F2⟩, fun y => absurd o3 y⟩⟩
    · rw [fa_lt] at y; rw [fa_le] at o2; omega
    · rw [I.1.1.2.1 k hk]
  · refine td_entry rfl (Nat.le_of_ble_eq_true rfl) rfl (gX9_set_0 ⟨fun _ => bad, fun y => ⟨(is_in (n := 9) (by decide)).mp (bnz y), fun _ => bad, fun z => ⟨fun w => ?_, fun _ => bad⟩⟩⟩)
    exact absurd ⟨bnz y, fa_of_nlt z, w⟩ nk
