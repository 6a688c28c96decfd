/-! JDK: max, min, fill -/
def fillH (h : td_H) (k n : Nat) (x : Int32) : td_H := fun a b => if a = k ∧ b < n then x else h a b
theorem fillH_s (h : td_H) (k n : Nat) (x : Int32) : hu (fillH h k n x) k n x = fillH h k (n + 1) x := by
  funext a b
  rw [hu_app]
  unfold fillH
  by_cases e : a = k
  · by_cases y : b = n
    · rw [if_pos ⟨e, y⟩, if_pos ⟨e, by omega⟩]
    · rw [if_neg (fun z => y z.2)]
      by_cases w : b < n
      · rw [if_pos ⟨e, w⟩, if_pos ⟨e, by omega⟩]
      · rw [if_neg (fun z => w z.2), if_neg (by omega)]
  · rw [if_neg (fun z => e z.1), if_neg (fun z => e z.1), if_neg (fun z => e z.1)]
theorem c_fill {G : td_G} {d : Nat} {h : td_H} {k n : Nat} (hk : td_kd k = 100 + n) (hn : n < 800) (x : Int32) : td_C G d mJ7_fill_53178 [.ref k, .int x] h (eV (fillH h k n x)) := by
  refine td_entry rfl (Nat.le_of_ble_eq_true rfl) rfl (rJ7_fill_53178_0 hk (by omega) ?_)
  refine td_for n (fun i => [(0, .ref k), (1, .int x), (2, .int (nI i)), (3, .int (nI n))]) (fun i => fillH h k i x) rfl (by funext a b; unfold fillH; rw [if_neg (by omega)]) (fun i hi ih => ?_) ?_
  · refine rJ7_fill_53178_5 hk (by omega) ⟨fun q => absurd (le_of q) (by omega), fun _ => ⟨vp_in_nI hi (by omega), ?_⟩⟩
    refine td_to ih (by rw [nI_1]) rfl ?_
    rw [ixn (by omega), fillH_s]
  · exact rJ7_fill_53178_5 hk (by omega) ⟨fun _ => ⟨rfl, rfl⟩, fun q => absurd (nle_of q) (by omega)⟩
/-! Door: fates -/
set_option maxRecDepth 20000 in
set_option maxHeartbeats 4000000 in
theorem gX2_begin_0 {G : td_G} {d : Nat} {Post : td_P} {k0 : Nat} {h : td_H} (hk0 : td_kd k0 = 2) (K : td_J G d mX2_begin Post 2 [(0, .ref k0), (1, .int 0)] [] h) : td_J G d mX2_begin Post 0 [(0, .ref k0)] [] h := by
  refine td_iconst (v := 0) dX2_begin_0 (by decide) ?_
  refine td_istore_n (lv2 := [(0, .ref k0), (1, .int 0)]) dX2_begin_1 (by decide) rfl ?_
  exact K
set_option maxRecDepth 20000 in
set_option maxHeartbeats 4000000 in
theorem gX2_begin_2 {G : td_G} {d : Nat} {Post : td_P} {k0 : Nat} {x1 : Int32} {h : td_H} (hk0 : td_kd k0 = 2) (K : (12 ≤ x1 → (Post none (hu (hu h k0 4 0) k0 5 0))) ∧ (¬ 12 ≤ x1 → (vp_in x1 12 ∧ (td_J G d mX2_begin Post 2 [(0, .ref k0), (1, .int (x1 + 1))] [] (hu (hu (hu (hu h (k0 + 1) (ix x1) 120) (k0 + 2) (ix x1) 120) (k0 + 3) (ix x1) 120) (k0 + 4) (ix x1) 0))))) : td_J G d mX2_begin Post 2 [(0, .ref k0), (1, .int x1)] [] h := by
  refine td_iload_n 1 dX2_begin_2 rfl ?_
  refine td_bipush (v := 12) dX2_begin_3 (by decide) ?_
  obtain ⟨Kt, Kf⟩ := K
  refine td_icmp_ge (tgt := 45) dX2_begin_5 (by decide) (fun q5 => ?_) (fun q5 => ?_)
  · have K := Kt q5
    refine td_aload_n 0 dX2_begin_45 rfl ?_
    refine td_iconst (v := 0) dX2_begin_46 (by decide) ?_
    refine pf_X2_24 rfl hk0 dX2_begin_47 ?_
    refine td_aload_n 0 dX2_begin_50 rfl ?_
    refine td_iconst (v := 0) dX2_begin_51 (by decide) ?_
    refine pf_X2_28 rfl hk0 dX2_begin_52 ?_
    exact td_return rfl dX2_begin_55 K
  · have K := Kf q5
    refine td_aload_n 0 dX2_begin_8 rfl ?_
    refine gf_X2_9 rfl hk0 dX2_begin_9 ?_
    refine td_iload_n 1 dX2_begin_12 rfl ?_
    refine td_bipush (v := 120) dX2_begin_13 (by decide) ?_
    obtain ⟨e15, K⟩ := K
    refine td_iastc (j := (ix x1)) (kd_2_0 hk0) (by decide) e15 rfl dX2_begin_15 ?_
    refine td_aload_n 0 dX2_begin_16 rfl ?_
    refine gf_X2_15 rfl hk0 dX2_begin_17 ?_
    refine td_iload_n 1 dX2_begin_20 rfl ?_
    refine td_bipush (v := 120) dX2_begin_21 (by decide) ?_
    refine td_iastc (j := (ix x1)) (kd_2_1 hk0) (by decide) e15 rfl dX2_begin_23 ?_
    refine td_aload_n 0 dX2_begin_24 rfl ?_
    refine gf_X2_18 rfl hk0 dX2_begin_25 ?_
    refine td_iload_n 1 dX2_begin_28 rfl ?_
    refine td_bipush (v := 120) dX2_begin_29 (by decide) ?_
    refine td_iastc (j := (ix x1)) (kd_2_2 hk0) (by decide) e15 rfl dX2_begin_31 ?_
    refine td_aload_n 0 dX2_begin_32 rfl ?_
    refine gf_X2_21 rfl hk0 dX2_begin_33 ?_
    refine td_iload_n 1 dX2_begin_36 rfl ?_
    refine td_iconst (v := 0) dX2_begin_37 (by decide) ?_
    refine td_iastc (j := (ix x1)) (kd_2_3 hk0) (by decide) e15 rfl dX2_begin_38 ?_
    refine td_iinc 1 (v := x1 + 1) (lv2 := [(0, .ref k0), (1, .int (x1 + 1))]) dX2_begin_39 rfl (congrArg (x1 + ·) (by decide)) (by decide) rfl ?_
    refine td_goto (tgt := 2) dX2_begin_42 (by decide) ?_
    exact K
set_option maxRecDepth 20000 in
set_option maxHeartbeats 4000000 in
theorem gX2_waitOf_0 {G : td_G} {d : Nat} {Post : td_P} {k0 k2 : Nat} {x1 : Int32} {h : td_H} (hk0 : td_kd k0 = 2) (hk2 : td_kd k2 = 5) (K : vp_in x1 12 ∧ (Post (some (.int ((h (k0 + 2) (ix x1)) - (h (k2 + 2) (ix x1))))) h)) : td_J G d mX2_waitOf Post 0 [(0, .ref k0), (1, .int x1), (2, .ref k2)] [] h := by
  refine td_aload_n 0 dX2_waitOf_0 rfl ?_
  refine gf_X2_15 rfl hk0 dX2_waitOf_1 ?_
  refine td_iload_n 1 dX2_waitOf_4 rfl ?_
  obtain ⟨e5, K⟩ := K
  refine td_ialdc (j := (ix x1)) (kd_2_1 hk0) (by decide) e5 rfl dX2_waitOf_5 ?_
  refine td_aload_n 2 dX2_waitOf_6 rfl ?_
  refine gf_X2_31 rfl hk2 dX2_waitOf_7 ?_
  refine td_iload_n 1 dX2_waitOf_10 rfl ?_
  refine td_ialdc (j := (ix x1)) (kd_5_1 hk2) (by decide) e5 rfl dX2_waitOf_11 ?_
  refine td_isub dX2_waitOf_12 ?_
  exact td_ireturn rfl dX2_waitOf_13 K
def fbH (h : td_H) (F n : Nat) : td_H := fun a b => if (a = F + 1 ∨ a = F + 2 ∨ a = F + 3) ∧ b < n then 120 else if a = F + 4 ∧ b < n then 0 else h a b
theorem fbH_s (h : td_H) (F n : Nat) : hu (hu (hu (hu (fbH h F n) (F + 1) n 120) (F + 2) n 120) (F + 3) n 120) (F + 4) n 0 = fbH h F (n + 1) := by
  funext a b
  simp only [hu_app]
  unfold fbH
  by_cases y : b = n
  · subst y
    by_cases e4 : a = F + 4
    · subst e4; simp
    · by_cases e3 : a = F + 3
      · subst e3; simp
      · by_cases e2 : a = F + 2
        · subst e2; simp
        · by_cases e1 : a = F + 1
          · subst e1; simp
          · simp [e1, e2, e3, e4]
  · have : (b < n + 1) = (b < n) := by apply propext; omega
    simp [y, this]
theorem c_F_begin {G : td_G} {d : Nat} {h : td_H} {F : Nat} (hF : td_kd F = 2) : td_C G d mX2_begin [.ref F] h (eV (hu (hu (fbH h F 12) F 4 0) F 5 0)) := by
  refine td_entry rfl (Nat.le_of_ble_eq_true rfl) rfl (gX2_begin_0 hF ?_)
  refine td_for 12 (fun i => [(0, .ref F), (1, .int (nI i))]) (fun i => fbH h F i) rfl (by funext a b; unfold fbH; rw [if_neg (by omega), if_neg (by omega)]) (fun i hi ih => ?_) ?_
  · refine gX2_begin_2 hF ⟨fun q => absurd (le_of (a := 12) q) (by omega), fun _ => ⟨vp_in_nI hi (by decide), ?_⟩⟩
    refine td_to ih (by rw [nI_1]) rfl ?_
    rw [ixn (by omega), fbH_s]
  · exact gX2_begin_2 hF ⟨fun _ => ⟨rfl, rfl⟩, fun q => absurd (by decide) q⟩
theorem c_F_waitOf {G : td_G} {d : Nat} {h : td_H} {F q : Nat} (hF : td_kd F = 2) (hq : td_kd q = 5) (x : Int32) (hx : vp_in x 12) : td_C G d mX2_waitOf [.ref F, .int x, .ref q] h (eR ((h (F + 2) (ix x)) - (h (q + 2) (ix x))) h) := td_entry rfl (Nat.le_of_ble_eq_true rfl) rfl (gX2_waitOf_0 hF hq ⟨hx, rfl, rfl⟩)
set_option maxRecDepth 20000 in
set_option maxHeartbeats 4000000 in
theorem gX2_waitsTogether_0 {G : td_G} {d : Nat} {Post : td_P} {k0 k1 : Nat} {h : td_H} (hk0 : td_kd k0 = 2) (hk1 : td_kd k1 = 5) (K : td_J G (d + 1) mX2_waitsTogether Post 4 [(0, .ref k0), (1, .ref k1), (2, .int 0), (3, .int 0)] [] h) : td_J G (d + 1) mX2_waitsTogether Post 0 [(0, .ref k0), (1, .ref k1)] [] h := by
  refine td_iconst (v := 0) dX2_waitsTogether_0 (by decide) ?_
  refine td_istore_n (lv2 := [(0, .ref k0), (1, .ref k1), (2, .int 0)]) dX2_waitsTogether_1 (by decide) rfl ?_
  refine td_iconst (v := 0) dX2_waitsTogether_2 (by decide) ?_
  refine td_istore_n (lv2 := [(0, .ref k0), (1, .ref k1), (2, .int 0), (3, .int 0)]) dX2_waitsTogether_3 (by decide) rfl ?_
  exact K
set_option maxRecDepth 20000 in
set_option maxHeartbeats 4000000 in
theorem gX2_waitsTogether_4 {G : td_G} {d : Nat} {Post : td_P} {k0 k1 : Nat} {x2 x3 : Int32} {h : td_H} (hk0 : td_kd k0 = 2) (hk1 : td_kd k1 = 5) (K : ((h k1 4) ≤ x3 → (Post (some (.int x2)) h)) ∧ (¬ (h k1 4) ≤ x3 → (vp_in x3 12 ∧ (td_J G (d + 1) mX2_waitsTogether Post 4 [(0, .ref k0), (1, .ref k1), (2, .int (x2 + ((h (k0 + 2) (ix x3)) - (h (k1 + 2) (ix x3))))), (3, .int (x3 + 1))] [] h)))) : td_J G (d + 1) mX2_waitsTogether Post 4 [(0, .ref k0), (1, .ref k1), (2, .int x2), (3, .int x3)] [] h := by
  refine td_iload_n 3 dX2_waitsTogether_4 rfl ?_
  refine td_aload_n 1 dX2_waitsTogether_5 rfl ?_
  refine gf_X2_36 rfl hk1 dX2_waitsTogether_6 ?_
  obtain ⟨Kt, Kf⟩ := K
  refine td_icmp_ge (tgt := 27) dX2_waitsTogether_9 (by decide) (fun q9 => ?_) (fun q9 => ?_)
  · have K := Kt q9
    refine td_iload_n 2 dX2_waitsTogether_27 rfl ?_
    exact td_ireturn rfl dX2_waitsTogether_28 K
  · have K := Kf q9
    refine td_iload_n 2 dX2_waitsTogether_12 rfl ?_
    refine td_aload_n 0 dX2_waitsTogether_13 rfl ?_
    refine td_iload_n 3 dX2_waitsTogether_14 rfl ?_
    refine td_aload_n 1 dX2_waitsTogether_15 rfl ?_
    obtain ⟨e16_0, K⟩ := K
    refine cl_X2_39 rfl hk0 dX2_waitsTogether_16 (Nat.le_of_ble_eq_true rfl) (c_F_waitOf hk0 hk1 x3 e16_0) (eR_k ?_)
    refine td_eqs (st2 := [.int ((h (k0 + 2) (ix x3)) - (h (k1 + 2) (ix x3))), .int x2]) rfl ?_
    refine td_iadd dX2_waitsTogether_19 ?_
    refine td_istore_n (lv2 := [(0, .ref k0), (1, .ref k1), (2, .int (x2 + ((h (k0 + 2) (ix x3)) - (h (k1 + 2) (ix x3))))), (3, .int x3)]) dX2_waitsTogether_20 (by decide) rfl ?_
    refine td_iinc 3 (v := x3 + 1) (lv2 := [(0, .ref k0), (1, .ref k1), (2, .int (x2 + ((h (k0 + 2) (ix x3)) - (h (k1 + 2) (ix x3))))), (3, .int (x3 + 1))]) dX2_waitsTogether_21 rfl (congrArg (x3 + ·) (by decide)) (by decide) rfl ?_
    refine td_goto (tgt := 4) dX2_waitsTogether_24 (by decide) ?_
    exact K
theorem c_F_waits {G : td_G} {d : Nat} {h : td_H} {F q : Nat} (hF : td_kd F = 2) (hq : td_kd q = 5) (w : Nat → Nat) (n : Nat) (h4 : h q 4 = nI n) (hn : n ≤ 12) (hw : ∀ p, p < n → h (F + 2) p - h (q + 2) p = nI (w p)) : td_C G (d + 1) mX2_waitsTogether [.ref F, .ref q] h (eR (nI (fb_sm w n)) h) := by
  refine td_entry rfl (Nat.le_of_ble_eq_true rfl) rfl (gX2_waitsTogether_0 hF hq ?_)
  refine td_for n (fun i => [(0, .ref F), (1, .ref q), (2, .int (nI (fb_sm w i))), (3, .int (nI i))]) (fun _ => h) rfl rfl (fun i hi ih => ?_) ?_
  · refine gX2_waitsTogether_4 hF hq ⟨fun y => absurd (le_of (by rw [h4] at y; exact y)) (by omega), fun _ => ⟨vp_in_nI (by omega) (by decide), ?_⟩⟩
    refine td_to ih ?_ rfl rfl
    rw [ixn (by omega), hw i hi, nI_add, nI_1]
    rfl
  · exact gX2_waitsTogether_4 hF hq ⟨fun _ => ⟨rfl, rfl⟩, fun y => absurd (nle_of (by rw [h4] at y; exact y)) (by omega)⟩
set_option maxRecDepth 20000 in
set_option maxHeartbeats 4000000 in
theorem gX2_lastEnd_0 {G : td_G} {d : Nat} {Post : td_P} {k0 : Nat} {x1 : Int32} {h : td_H} (hk0 : td_kd k0 = 2) (K : td_J G (d + 1) mX2_lastEnd Post 4 [(0, .ref k0), (1, .int x1), (2, .int 0), (3, .int 0)] [] h) : td_J G (d + 1) mX2_lastEnd Post 0 [(0, .ref k0), (1, .int x1)] [] h := by
  refine td_iconst (v := 0) dX2_lastEnd_0 (by decide) ?_
  refine td_istore_n (lv2 := [(0, .ref k0), (1, .int x1), (2, .int 0)]) dX2_lastEnd_1 (by decide) rfl ?_
  refine td_iconst (v := 0) dX2_lastEnd_2 (by decide) ?_
  refine td_istore_n (lv2 := [(0, .ref k0), (1, .int x1), (2, .int 0), (3, .int 0)]) dX2_lastEnd_3 (by decide) rfl ?_
  exact K
set_option maxRecDepth 20000 in
set_option maxHeartbeats 4000000 in
theorem gX2_lastEnd_4 {G : td_G} {d : Nat} {Post : td_P} {k0 : Nat} {x1 x2 x3 : Int32} {h : td_H} (hk0 : td_kd k0 = 2) (K : (x1 ≤ x3 → (Post (some (.int x2)) h)) ∧ (¬ x1 ≤ x3 → ((12 ≤ x3 → (Post (some (.int x2)) h)) ∧ (¬ 12 ≤ x3 → (vp_in x3 12 ∧ (td_J G (d + 1) mX2_lastEnd Post 4 [(0, .ref k0), (1, .int x1), (2, .int (if x2 < (h (k0 + 3) (ix x3)) then (h (k0 + 3) (ix x3)) else x2 : Int32)), (3, .int (x3 + 1))] [] h)))))) : td_J G (d + 1) mX2_lastEnd Post 4 [(0, .ref k0), (1, .int x1), (2, .int x2), (3, .int x3)] [] h := by
  refine td_iload_n 3 dX2_lastEnd_4 rfl ?_
  refine td_iload_n 1 dX2_lastEnd_5 rfl ?_
  obtain ⟨Kt, Kf⟩ := K
  refine td_icmp_ge (tgt := 32) dX2_lastEnd_6 (by decide) (fun q6 => ?_) (fun q6 => ?_)
  · have K := Kt q6
    refine td_iload_n 2 dX2_lastEnd_32 rfl ?_
    exact td_ireturn rfl dX2_lastEnd_33 K
  · have K := Kf q6
    refine td_iload_n 3 dX2_lastEnd_9 rfl ?_
    refine td_bipush (v := 12) dX2_lastEnd_10 (by decide) ?_
    obtain ⟨Kt, Kf⟩ := K
    refine td_icmp_ge (tgt := 32) dX2_lastEnd_12 (by decide) (fun q12 => ?_) (fun q12 => ?_)
    · have K := Kt q12
      refine td_iload_n 2 dX2_lastEnd_32 rfl ?_
      exact td_ireturn rfl dX2_lastEnd_33 K
    · have K := Kf q12
      refine td_iload_n 2 dX2_lastEnd_15 rfl ?_
      refine td_aload_n 0 dX2_lastEnd_16 rfl ?_
      refine gf_X2_18 rfl hk0 dX2_lastEnd_17 ?_
      refine td_iload_n 3 dX2_lastEnd_20 rfl ?_
      obtain ⟨e21, K⟩ := K
      refine td_ialdc (j := (ix x3)) (kd_2_2 hk0) (by decide) e21 rfl dX2_lastEnd_21 ?_
      refine cm_X2_43 rfl dX2_lastEnd_22 (Nat.le_of_ble_eq_true rfl) ?_
      refine td_eqs (st2 := [.int (if x2 < (h (k0 + 3) (ix x3)) then (h (k0 + 3) (ix x3)) else x2 : Int32)]) rfl ?_
      refine td_istore_n (lv2 := [(0, .ref k0), (1, .int x1), (2, .int (if x2 < (h (k0 + 3) (ix x3)) then (h (k0 + 3) (ix x3)) else x2 : Int32)), (3, .int x3)]) dX2_lastEnd_25 (by decide) rfl ?_
      refine td_iinc 3 (v := x3 + 1) (lv2 := [(0, .ref k0), (1, .int x1), (2, .int (if x2 < (h (k0 + 3) (ix x3)) then (h (k0 + 3) (ix x3)) else x2 : Int32)), (3, .int (x3 + 1))]) dX2_lastEnd_26 rfl (congrArg (x3 + ·) (by decide)) (by decide) rfl ?_
      refine td_goto (tgt := 4) dX2_lastEnd_29 (by decide) ?_
      exact K
def mxN (f : Nat → Nat) : Nat → Nat
  | 0 => 0
  | n + 1 => if mxN f n < f n then f n else mxN f n
theorem mxN_lt {f : Nat → Nat} {b : Nat} (hb : 0 < b) : ∀ {n : Nat}, (∀ p, p < n → f p < b) → mxN f n < b
  | 0, _ => hb
  | n + 1, h => by
    unfold mxN
    split
    · exact h n (by omega)
    · exact mxN_lt hb (fun p hp => h p (by omega))
theorem c_F_last {G : td_G} {d : Nat} {h : td_H} {F : Nat} (hF : td_kd F = 2) (f : Nat → Nat) (n : Nat) (x : Int32) (hx : x = nI n) (hn : n ≤ 12) (hw : ∀ p, p < n → h (F + 3) p = nI (f p) ∧ f p ≤ 120) : td_C G (d + 1) mX2_lastEnd [.ref F, .int x] h (eR (nI (mxN f n)) h) := by
  subst hx
  refine td_entry rfl (Nat.le_of_ble_eq_true rfl) rfl (gX2_lastEnd_0 hF ?_)
  refine td_for n (fun i => [(0, .ref F), (1, .int (nI n)), (2, .int (nI (mxN f i))), (3, .int (nI i))]) (fun _ => h) rfl rfl (fun i hi ih => ?_) ?_
  · refine gX2_lastEnd_4 hF ⟨fun y => absurd (le_of y) (by omega), fun _ => ⟨fun y => absurd (le_of (a := 12) y) (by omega), fun _ => ⟨vp_in_nI (by omega) (by decide), ?_⟩⟩⟩
    refine td_to ih ?_ rfl rfl
    obtain ⟨w1, w2⟩ := hw i hi
    have hm : mxN f i < 121 := mxN_lt (by decide) (fun p hp => by have := (hw p (by omega)).2; omega)
    rw [ixn (by omega), w1, nI_1, ite_c (nI_ltI (by omega) (by omega)) _ _, nI_ite]
    rfl
  · refine gX2_lastEnd_4 hF ⟨fun _ => ⟨rfl, rfl⟩, fun y => absurd (nle_of y) (by omega)⟩
/-! Door: the drum is laid out -/
set_option maxRecDepth 20000 in
set_option maxHeartbeats 4000000 in
theorem gX1_layOut_0 {G : td_G} {d : Nat} {Post : td_P} {k0 : Nat} {h : td_H} (hk0 : td_kd k0 = 1) (K : td_J G (d + 2) mX1_layOut Post 2 [(0, .ref k0), (1, .int 0)] [] h) : td_J G (d + 2) mX1_layOut Post 0 [(0, .ref k0)] [] h := by
  refine td_iconst (v := 0) dX1_layOut_0 (by decide) ?_
  refine td_istore_n (lv2 := [(0, .ref k0), (1, .int 0)]) dX1_layOut_1 (by decide) rfl ?_
  exact K
set_option maxRecDepth 20000 in
set_option maxHeartbeats 4000000 in
theorem gX1_layOut_2 {G : td_G} {d : Nat} {Post : td_P} {k0 : Nat} {x1 : Int32} {h : td_H} (hk0 : td_kd k0 = 1) (K : (24 ≤ x1 → (Post none h)) ∧ (¬ 24 ≤ x1 → (((h k0 5) = 3 ∨ (h k0 5) = 4) ∧ vp_in (h k0 6) 4 ∧ vp_in (x1 / 12) 2 ∧ vp_in (jrem x1 12) 12 ∧ (vp_in x1 24 ∧ (td_J G (d + 2) mX1_layOut Post 35 [(0, .ref k0), (1, .int x1), (2, .int 0)] [] (hu h (k0 + 2) (ix x1) (ms (opM (ix (h k0 5)) (ix (h k0 6)) (ix (x1 / 12)) (ix (jrem x1 12)))))))))) : td_J G (d + 2) mX1_layOut Post 2 [(0, .ref k0), (1, .int x1)] [] h := by
  refine td_iload_n 1 dX1_layOut_2 rfl ?_
  refine td_bipush (v := 24) dX1_layOut_3 (by decide) ?_
  obtain ⟨Kt, Kf⟩ := K
  refine td_icmp_ge (tgt := 78) dX1_layOut_5 (by decide) (fun q5 => ?_) (fun q5 => ?_)
  · have K := Kt q5
    exact td_return rfl dX1_layOut_78 K
  · have K := Kf q5
    refine td_aload_n 0 dX1_layOut_8 rfl ?_
    refine gf_X1_15 rfl hk0 dX1_layOut_9 ?_
    refine td_iload_n 1 dX1_layOut_12 rfl ?_
    refine td_aload_n 0 dX1_layOut_13 rfl ?_
    refine gf_X1_31 rfl hk0 dX1_layOut_14 ?_
    refine td_aload_n 0 dX1_layOut_17 rfl ?_
    refine gf_X1_40 rfl hk0 dX1_layOut_18 ?_
    refine td_iload_n 1 dX1_layOut_21 rfl ?_
    refine td_bipush (v := 12) dX1_layOut_22 (by decide) ?_
    refine td_idiv dX1_layOut_24 (by decide) ?_
    refine td_iload_n 1 dX1_layOut_25 rfl ?_
    refine td_bipush (v := 12) dX1_layOut_26 (by decide) ?_
    refine td_irem dX1_layOut_28 (by decide) ?_
    obtain ⟨e29_0, K⟩ := K
    obtain ⟨e29_1, K⟩ := K
    obtain ⟨e29_2, K⟩ := K
    obtain ⟨e29_3, K⟩ := K
    refine cl_X1_61 rfl dX1_layOut_29 (Nat.le_of_ble_eq_true rfl) (c_openParts (h k0 5) (h k0 6) (x1 / 12) (jrem x1 12) e29_0 e29_1 e29_2 e29_3) (eR_k ?_)
    refine td_eqs (st2 := [.int (ms (opM (ix (h k0 5)) (ix (h k0 6)) (ix (x1 / 12)) (ix (jrem x1 12)))), .int x1, .ref (k0 + 2)]) rfl ?_
    obtain ⟨e32, K⟩ := K
    refine td_iastc (j := (ix x1)) (kd_1_1 hk0) (by decide) e32 rfl dX1_layOut_32 ?_
    refine td_iconst (v := 0) dX1_layOut_33 (by decide) ?_
    refine td_istore_n (lv2 := [(0, .ref k0), (1, .int x1), (2, .int 0)]) dX1_layOut_34 (by decide) rfl ?_
    exact K
set_option maxRecDepth 20000 in
set_option maxHeartbeats 4000000 in
theorem gX1_layOut_35 {G : td_G} {d : Nat} {Post : td_P} {k0 : Nat} {x1 x2 : Int32} {h : td_H} (hk0 : td_kd k0 = 1) (K : (4 ≤ x2 → td_J G (d + 2) mX1_layOut Post 2 [(0, .ref k0), (1, .int (x1 + 1))] [] h) ∧ (¬ 4 ≤ x2 → (((h k0 5) = 3 ∨ (h k0 5) = 4) ∧ vp_in x2 4 ∧ vp_in (x1 / 12) 2 ∧ vp_in (jrem x1 12) 12 ∧ (vp_in ((x1 * 4) + x2) 96 ∧ (td_J G (d + 2) mX1_layOut Post 35 [(0, .ref k0), (1, .int x1), (2, .int (x2 + 1))] [] (hu h (k0 + 1) (ix ((x1 * 4) + x2)) (nI (share (ix (h k0 5)) (ix x2) (ix (x1 / 12)) (ix (jrem x1 12)))))))))) : td_J G (d + 2) mX1_layOut Post 35 [(0, .ref k0), (1, .int x1), (2, .int x2)] [] h := by
  refine td_iload_n 2 dX1_layOut_35 rfl ?_
  refine td_iconst (v := 4) dX1_layOut_36 (by decide) ?_
  obtain ⟨Kt, Kf⟩ := K
  refine td_icmp_ge (tgt := 72) dX1_layOut_37 (by decide) (fun q37 => ?_) (fun q37 => ?_)
  · have K := Kt q37
    refine td_iinc 1 (v := x1 + 1) (lv2 := [(0, .ref k0), (1, .int (x1 + 1)), (2, .int x2)]) dX1_layOut_72 rfl (congrArg (x1 + ·) (by decide)) (by decide) rfl ?_
    refine td_goto (tgt := 2) dX1_layOut_75 (by decide) ?_
    refine td_drop (lv2 := [(0, .ref k0), (1, .int (x1 + 1))]) [0, 1] rfl ?_
    exact K
  · have K := Kf q37
    refine td_aload_n 0 dX1_layOut_40 rfl ?_
    refine gf_X1_9 rfl hk0 dX1_layOut_41 ?_
    refine td_iload_n 1 dX1_layOut_44 rfl ?_
    refine td_iconst (v := 4) dX1_layOut_45 (by decide) ?_
    refine td_imul dX1_layOut_46 ?_
    refine td_iload_n 2 dX1_layOut_47 rfl ?_
    refine td_iadd dX1_layOut_48 ?_
    refine td_aload_n 0 dX1_layOut_49 rfl ?_
    refine gf_X1_31 rfl hk0 dX1_layOut_50 ?_
    refine td_iload_n 2 dX1_layOut_53 rfl ?_
    refine td_iload_n 1 dX1_layOut_54 rfl ?_
    refine td_bipush (v := 12) dX1_layOut_55 (by decide) ?_
    refine td_idiv dX1_layOut_57 (by decide) ?_
    refine td_iload_n 1 dX1_layOut_58 rfl ?_
    refine td_bipush (v := 12) dX1_layOut_59 (by decide) ?_
    refine td_irem dX1_layOut_61 (by decide) ?_
    obtain ⟨e62_0, K⟩ := K
    obtain ⟨e62_1, K⟩ := K
    obtain ⟨e62_2, K⟩ := K
    obtain ⟨e62_3, K⟩ := K
    refine cl_X1_27 rfl dX1_layOut_62 (Nat.le_of_ble_eq_true rfl) (c_sectors (h k0 5) x2 (x1 / 12) (jrem x1 12) e62_0 e62_1 e62_2 e62_3) (eR_k ?_)
    refine td_eqs (st2 := [.int (nI (share (ix (h k0 5)) (ix x2) (ix (x1 / 12)) (ix (jrem x1 12)))), .int ((x1 * 4) + x2), .ref (k0 + 1)]) rfl ?_
    obtain ⟨e65, K⟩ := K
    refine td_iastc (j := (ix ((x1 * 4) + x2))) (kd_1_0 hk0) (by decide) e65 rfl dX1_layOut_65 ?_
    refine td_iinc 2 (v := x2 + 1) (lv2 := [(0, .ref k0), (1, .int x1), (2, .int (x2 + 1))]) dX1_layOut_66 rfl (congrArg (x2 + ·) (by decide)) (by decide) rfl ?_
    refine td_goto (tgt := 35) dX1_layOut_69 (by decide) ?_
    exact K
def layH (h : td_H) (D L O n m : Nat) : td_H := fun a b => if a = D + 2 ∧ b < n then ms (opM L O (b / 12) (b % 12)) else if a = D + 1 ∧ b < m then nI (share L (b % 4) (b / 4 / 12) (b / 4 % 12)) else h a b
theorem layH_a (h : td_H) (D L O n m : Nat) : hu (layH h D L O n m) (D + 2) n (ms (opM L O (n / 12) (n % 12))) = layH h D L O (n + 1) m := by
  funext a b
  rw [hu_app]
  unfold layH
  by_cases y : a = D + 2 ∧ b = n
  · rw [if_pos y, if_pos (by omega), y.2]
  · rw [if_neg y]
    have : (a = D + 2 ∧ b < n + 1) = (a = D + 2 ∧ b < n) := by apply propext; omega
    simp only [this]
theorem layH_b (h : td_H) (D L O n m : Nat) : hu (layH h D L O n m) (D + 1) m (nI (share L (m % 4) (m / 4 / 12) (m / 4 % 12))) = layH h D L O n (m + 1) := by
  funext a b
  rw [hu_app]
  unfold layH
  by_cases y : a = D + 1 ∧ b = m
  · rw [if_pos y, if_neg (by omega), if_pos (by omega), y.2]
  · rw [if_neg y]
    have : (a = D + 1 ∧ b < m + 1) = (a = D + 1 ∧ b < m) := by apply propext; omega
    simp only [this]
theorem layH_o (h : td_H) (D L O n m : Nat) {a b : Nat} (h1 : a ≠ D + 1) (h2 : a ≠ D + 2) : layH h D L O n m a b = h a b := by
  unfold layH
  rw [if_neg (fun z => h2 z.1), if_neg (fun z => h1 z.1)]
theorem c_layOut {G : td_G} {d : Nat} {h : td_H} {D : Nat} (hD : td_kd D = 1) (L O : Nat) (hL : L = 3 ∨ L = 4) (hO : O < 4) (h5 : h D 5 = nI L) (h6 : h D 6 = nI O) : td_C G (d + 2) mX1_layOut [.ref D] h (eV (layH h D L O 24 96)) := by
  have o5 : ∀ n m, layH h D L O n m D 5 = nI L := fun n m => by rw [layH_o _ _ _ _ _ _ (by omega) (by omega)]; exact h5
  have o6 : ∀ n m, layH h D L O n m D 6 = nI O := fun n m => by rw [layH_o _ _ _ _ _ _ (by omega) (by omega)]; exact h6
  have dv : ∀ i, i < 24 → nI i / 12 = nI (i / 12) ∧ jrem (nI i) 12 = nI (i % 12) ∧ vp_in (nI i / 12) 2 ∧ vp_in (jrem (nI i) 12) 12 ∧ ix (nI i / 12) = i / 12 ∧ ix (jrem (nI i) 12) = i % 12 := by
    intro i hi
    have e1 : nI i / 12 = nI (i / 12) := pk_div (a := i) (d := 12) (by omega) (by decide) (by decide)
    have e2 : jrem (nI i) 12 = nI (i % 12) := jrem_n (b := 12) (by omega) (by decide) (by decide)
    rw [e1, e2]
    exact ⟨rfl, rfl, vp_in_nI (by omega) (by decide), vp_in_nI (by omega) (by decide), ixn (by omega), ixn (by omega)⟩
  have vL : (nI L = 3 ∨ nI L = 4) := by rcases hL with z | z <;> rw [z]; exact Or.inl rfl; exact Or.inr rfl
  refine td_entry rfl (Nat.le_of_ble_eq_true rfl) rfl (gX1_layOut_0 hD ?_)
  refine td_for 24 (fun i => [(0, .ref D), (1, .int (nI i))]) (fun i => layH h D L O i (i * 4)) rfl (by funext a b; unfold layH; rw [if_neg (by omega), if_neg (by omega)]) (fun i hi ih => ?_) ?_
  · obtain ⟨v1, v2, v3, v4, v5, v6⟩ := dv i hi
    refine gX1_layOut_2 hD ⟨fun y => absurd (le_of (a := 24) y) (by omega), fun _ => ?_⟩
    rw [o5, o6, v5, v6, ixn (by omega), ixn (by omega), ixn (by omega), layH_a]
    refine ⟨vL, vp_in_nI hO (by decide), v3, v4, vp_in_nI hi (by decide), ?_⟩
    refine td_for 4 (fun j => [(0, .ref D), (1, .int (nI i)), (2, .int (nI j))]) (fun j => layH h D L O (i + 1) (i * 4 + j)) rfl rfl (fun j hj ih2 => ?_) ?_
    · refine gX1_layOut_35 hD ⟨fun y => absurd (le_of (a := 4) y) (by omega), fun _ => ?_⟩
      have e : nI i * 4 + nI j = nI (i * 4 + j) := by rw [show (4 : Int32) = nI 4 from rfl, pk_mul, nI_add]
      rw [o5, v5, v6, e, ixn (by omega), ixn (by omega), ixn (by omega)]
      refine ⟨vL, vp_in_nI hj (by decide), v3, v4, vp_in_nI (by omega) (by decide), ?_⟩
      refine td_to ih2 (by rw [nI_1]) rfl ?_
      rw [← Nat.add_assoc, ← layH_b, show (i * 4 + j) % 4 = j by omega, show (i * 4 + j) / 4 = i by omega]
    · refine gX1_layOut_35 hD ⟨fun _ => ?_, fun y => absurd (by decide) y⟩
      exact td_to ih (by rw [nI_1]) rfl (by rw [show (i + 1) * 4 = i * 4 + 4 by omega])
  · exact gX1_layOut_2 hD ⟨fun _ => ⟨rfl, rfl⟩, fun y => absurd (by decide) y⟩
theorem dLay_of {h : td_H} {D L O : Nat} (hL : L = 3 ∨ L = 4) (hO : O < 4) (h5 : h D 5 = nI L) (h6 : h D 6 = nI O) : dLay L O D (layH h D L O 24 96) := by
  refine ⟨hL, hO, by rw [layH_o _ _ _ _ _ _ (by omega) (by omega)]; exact h5, by rw [layH_o _ _ _ _ _ _ (by omega) (by omega)]; exact h6, fun s hs t ht => ⟨?_, fun i hi => ?_⟩⟩
  · unfold layH
    rw [if_pos ⟨rfl, by omega⟩, show (s * 12 + t) / 12 = s by omega, show (s * 12 + t) % 12 = t by omega]
  · unfold layH
    rw [if_neg (by omega), if_pos ⟨rfl, by omega⟩, show ((s * 12 + t) * 4 + i) % 4 = i by omega, show ((s * 12 + t) * 4 + i) / 4 = s * 12 + t by omega, show (s * 12 + t) / 12 = s by omega, show (s * 12 + t) % 12 = t by omega]
