/-! ===== THE TAPE, over naturals: L bytes f ===== -/
def skF (L : Nat) (f : Nat → Nat) : Nat → Nat → Nat
  | 0, i => i
  | k + 1, i => if i < L ∧ f i = 32 then skF L f k (i + 1) else i
def sk (L : Nat) (f : Nat → Nat) (i : Nat) : Nat := skF L f (L - i) i
theorem sk_t {L : Nat} {f : Nat → Nat} {i : Nat} (h : i < L) (h2 : f i = 32) : sk L f i = sk L f (i + 1) := by
  unfold sk
  rw [show L - i = (L - (i + 1)) + 1 by omega]
  show (if i < L ∧ f i = 32 then skF L f (L - (i + 1)) (i + 1) else i) = _
  rw [if_pos ⟨h, h2⟩]
theorem sk_f {L : Nat} {f : Nat → Nat} {i : Nat} (h : ¬ (i < L ∧ f i = 32)) : sk L f i = i := by
  unfold sk
  cases L - i with
  | zero => rfl
  | succ k =>
    show (if i < L ∧ f i = 32 then skF L f k (i + 1) else i) = i
    rw [if_neg h]
theorem sk_le {L : Nat} {f : Nat → Nat} : ∀ n i, L - i = n → i ≤ L → i ≤ sk L f i ∧ sk L f i ≤ L := by
  intro n
  induction n with
  | zero =>
    intro i h1 h2
    rw [sk_f (by omega)]
    omega
  | succ n ih =>
    intro i h1 h2
    by_cases y : i < L ∧ f i = 32
    · rw [sk_t y.1 y.2]
      have := ih (i + 1) (by omega) (by omega)
      omega
    · rw [sk_f y]
      omega
abbrev dgB (f : Nat → Nat) (L i : Nat) : Prop := i < L ∧ 48 ≤ f i ∧ f i ≤ 57
def dgF (L : Nat) (f : Nat → Nat) : Nat → Nat → Nat → Nat × Nat
  | 0, i, v => (i, v)
  | k + 1, i, v => if dgB f L i then dgF L f k (i + 1) (min 120 (v * 10 + (f i - 48))) else (i, v)
def dg (L : Nat) (f : Nat → Nat) (i v : Nat) : Nat × Nat := dgF L f (L - i) i v
theorem dg_t {L : Nat} {f : Nat → Nat} {i v : Nat} (h : dgB f L i) : dg L f i v = dg L f (i + 1) (min 120 (v * 10 + (f i - 48))) := by
  unfold dg
  have := h.1
  rw [show L - i = (L - (i + 1)) + 1 by omega]
  show (if dgB f L i then dgF L f (L - (i + 1)) (i + 1) (min 120 (v * 10 + (f i - 48))) else (i, v)) = _
  rw [if_pos h]
theorem dg_f {L : Nat} {f : Nat → Nat} {i v : Nat} (h : ¬ dgB f L i) : dg L f i v = (i, v) := by
  unfold dg
  cases L - i with
  | zero => rfl
  | succ k =>
    show (if dgB f L i then dgF L f k (i + 1) (min 120 (v * 10 + (f i - 48))) else (i, v)) = (i, v)
    rw [if_neg h]
theorem dg_le {L : Nat} {f : Nat → Nat} : ∀ n i v, L - i = n → i ≤ L → v ≤ 120 → i ≤ (dg L f i v).1 ∧ (dg L f i v).1 ≤ L ∧ (dg L f i v).2 ≤ 120 := by
  intro n
  induction n with
  | zero =>
    intro i v h1 h2 h3
    rw [dg_f (fun z => by have := z.1; omega)]
    exact ⟨Nat.le_refl _, h2, h3⟩
  | succ n ih =>
    intro i v h1 h2 h3
    by_cases y : dgB f L i
    · rw [dg_t y]
      have := y.1
      have := ih (i + 1) (min 120 (v * 10 + (f i - 48))) (by omega) (by omega) (Nat.min_le_left _ _)
      omega
    · rw [dg_f y]
      exact ⟨Nat.le_refl _, h2, h3⟩
/-- a tick at i: its value (120: none), and the place behind it -/
def rtV (L : Nat) (f : Nat → Nat) (i : Nat) : Nat := if (dg L f (sk L f i) 0).1 = sk L f i then 120 else (dg L f (sk L f i) 0).2
def rtP (L : Nat) (f : Nat → Nat) (i : Nat) : Nat := if rtV L f i < 120 then (dg L f (sk L f i) 0).1 else sk L f i
def rsV (L : Nat) (f : Nat → Nat) (i : Nat) : Nat := if sk L f i < L then (if f (sk L f i) = 115 then 0 else if f (sk L f i) = 104 then 1 else 2) else 2
def rsP (L : Nat) (f : Nat → Nat) (i : Nat) : Nat := if rsV L f i < 2 then sk L f i + 1 else sk L f i
def kdN (b : Nat) : Nat := if b = 119 then 0 else if b = 98 then 1 else if b = 116 then 2 else if b = 99 then 3 else if b = 104 then 4 else if b = 100 then 5 else 6
def rkV (L : Nat) (f : Nat → Nat) (i : Nat) : Nat := if sk L f i < L then kdN (f (sk L f i)) else 6
def rkP (L : Nat) (f : Nat → Nat) (i : Nat) : Nat := if rkV L f i < 6 then sk L f i + 1 else sk L f i
theorem rtP_le {L : Nat} {f : Nat → Nat} {i : Nat} (h : i ≤ L) : rtP L f i ≤ L := by
  have a := (sk_le (f := f) (L - i) i rfl h).2
  unfold rtP
  split
  · exact (dg_le (f := f) _ (sk L f i) 0 rfl a (by omega)).2.1
  · exact a
theorem rsP_le {L : Nat} {f : Nat → Nat} {i : Nat} (h : i ≤ L) : rsP L f i ≤ L := by
  have a := (sk_le (f := f) (L - i) i rfl h).2
  unfold rsP
  split
  · rename_i y
    unfold rsV at y
    split at y
    · omega
    · omega
  · exact a
theorem rkP_le {L : Nat} {f : Nat → Nat} {i : Nat} (h : i ≤ L) : rkP L f i ≤ L := by
  have a := (sk_le (f := f) (L - i) i rfl h).2
  unfold rkP
  split
  · rename_i y
    unfold rkV at y
    split at y
    · omega
    · omega
  · exact a
theorem rtV_le (L : Nat) (f : Nat → Nat) {i : Nat} (h : i ≤ L) : rtV L f i ≤ 120 := by
  have a := (sk_le (f := f) (L - i) i rfl h).2
  unfold rtV
  split
  · omega
  · exact (dg_le (f := f) _ (sk L f i) 0 rfl a (by omega)).2.2
theorem rsV_le (L : Nat) (f : Nat → Nat) (i : Nat) : rsV L f i ≤ 2 := by unfold rsV; split; split; decide; split <;> decide; decide
theorem kdN_le (b : Nat) : kdN b ≤ 6 := by unfold kdN; repeat (first | decide | split)
theorem rkV_le (L : Nat) (f : Nat → Nat) (i : Nat) : rkV L f i ≤ 6 := by unfold rkV; split; exact kdN_le _; decide
/-- one of the people at i -/
def rpO (L : Nat) (f : Nat → Nat) (i : Nat) : Bool := decide (rtV L f i < 120) && (decide (rsV L f (rtP L f i) < 2) && decide (rkV L f (rsP L f (rtP L f i)) < 6))
def rpP (L : Nat) (f : Nat → Nat) (i : Nat) : Nat := if rtV L f i < 120 then (if rsV L f (rtP L f i) < 2 then rkP L f (rsP L f (rtP L f i)) else rsP L f (rtP L f i)) else rtP L f i
theorem rpP_le {L : Nat} {f : Nat → Nat} {i : Nat} (h : i ≤ L) : rpP L f i ≤ L := by
  unfold rpP
  split
  · split
    · exact rkP_le (rsP_le (rtP_le h))
    · exact rsP_le (rtP_le h)
  · exact rtP_le h
/-- where the k-th begins -/
def plc (L : Nat) (f : Nat → Nat) : Nat → Nat
  | 0 => 0
  | k + 1 => sk L f (rpP L f (plc L f k)) + 1
/-- (0, how many), or (1, where it is wrong); m are left, k are read -/
def rdE (L : Nat) (f : Nat → Nat) : Nat → Nat → Nat × Nat
  | 0, k => (1, plc L f k)
  | m + 1, k => if rpO L f (plc L f k) = true then (if sk L f (rpP L f (plc L f k)) = L then (0, k + 1) else if f (sk L f (rpP L f (plc L f k))) = 59 ∧ k + 1 < 8 then rdE L f m (k + 1) else (1, sk L f (rpP L f (plc L f k)))) else (1, rpP L f (plc L f k))
def tT (L : Nat) (f : Nat → Nat) (k : Nat) : Nat := rtV L f (plc L f k)
def tS (L : Nat) (f : Nat → Nat) (k : Nat) : Nat := rsV L f (rtP L f (plc L f k))
def tK (L : Nat) (f : Nat → Nat) (k : Nat) : Nat := rkV L f (rsP L f (rtP L f (plc L f k)))
def tD (L : Nat) (f : Nat → Nat) (h : td_H) : Prop := L ≤ 80 ∧ (∀ i, i < L → 32 ≤ f i ∧ f i ≤ 126) ∧ h 11 4 = nI L ∧ ∀ i, i < L → h 12 i = nI (f i)
theorem tD.fr {L : Nat} {f : Nat → Nat} {h h' : td_H} (x : tD L f h) (e : ∀ a b, (a = 11 ∧ b = 4) ∨ a = 12 → h' a b = h a b) : tD L f h' := ⟨x.1, x.2.1, by rw [e _ _ (by omega)]; exact x.2.2.1, fun i hi => by rw [e _ _ (by omega)]; exact x.2.2.2 i hi⟩
theorem tD.pl {L : Nat} {f : Nat → Nat} {h : td_H} (x : tD L f h) (b : Nat) (v : Int32) (hb : b ≠ 4) : tD L f (hu h 11 b v) := x.fr (fun a c e => by rw [hu_app, if_neg (by omega)])
theorem hu_hu (h : td_H) (a b : Nat) (v w : Int32) : hu (hu h a b v) a b w = hu h a b w := by
  funext x y
  simp only [hu_app]
  split <;> rfl
theorem hu_pl {h : td_H} {a b : Nat} {v : Int32} (e : h a b = v) : h = hu h a b v := by rw [← e, hu_id]
set_option maxRecDepth 20000 in
set_option maxHeartbeats 4000000 in
theorem gX7_byteOf_0 {G : td_G} {d : Nat} {Post : td_P} {x2 : Int32} {w0 : Int64} {h : td_H} (K : Post (some (.int (((jlshr w0 (8 * x2)).toInt32) &&& 255))) h) : td_J G d mX7_byteOf Post 0 [(0, .long w0), (2, .int x2)] [] h := by
  refine td_lload_n 0 dX7_byteOf_0 rfl ?_
  refine td_bipush (v := 8) dX7_byteOf_1 (by decide) ?_
  refine td_iload_n 1 dX7_byteOf_3 rfl ?_
  refine td_imul dX7_byteOf_4 ?_
  refine td_lshr dX7_byteOf_5 ?_
  refine td_l2i dX7_byteOf_6 ?_
  refine td_sipush (v := 255) dX7_byteOf_7 (by decide) ?_
  refine td_iand dX7_byteOf_10 ?_
  exact td_ireturn rfl dX7_byteOf_11 K
set_option maxRecDepth 20000 in
set_option maxHeartbeats 4000000 in
theorem gX7_faultHere_0 {G : td_G} {d : Nat} {Post : td_P} {h : td_H} (K : Post (some (.int ((-20) - (h 11 6)))) h) : td_J G d mX7_faultHere Post 0 [(0, .ref 11)] [] h := by
  refine td_bipush (v := (-20)) dX7_faultHere_0 (by decide) ?_
  refine td_aload_n 0 dX7_faultHere_2 rfl ?_
  refine gf_X7_32 rfl kp_11 dX7_faultHere_3 ?_
  refine td_isub dX7_faultHere_6 ?_
  exact td_ireturn rfl dX7_faultHere_7 K
set_option maxRecDepth 20000 in
set_option maxHeartbeats 4000000 in
theorem gX7_skipBlanks_0 {G : td_G} {d : Nat} {Post : td_P} {h : td_H} (K : ((h 11 4) ≤ (h 11 6) → (Post none h)) ∧ (¬ (h 11 4) ≤ (h 11 6) → (vp_in (h 11 6) 80 ∧ ((¬ (h 12 (ix (h 11 6))) = 32 → (Post none h)) ∧ ((h 12 (ix (h 11 6))) = 32 → td_J G d mX7_skipBlanks Post 0 [(0, .ref 11)] [] (hu h 11 6 ((h 11 6) + 1))))))) : td_J G d mX7_skipBlanks Post 0 [(0, .ref 11)] [] h := by
  refine td_aload_n 0 dX7_skipBlanks_0 rfl ?_
  refine gf_X7_32 rfl kp_11 dX7_skipBlanks_1 ?_
  refine td_aload_n 0 dX7_skipBlanks_4 rfl ?_
  refine gf_X7_28 rfl kp_11 dX7_skipBlanks_5 ?_
  obtain ⟨Kt, Kf⟩ := K
  refine td_icmp_ge (tgt := 38) dX7_skipBlanks_8 (by decide) (fun q8 => ?_) (fun q8 => ?_)
  · have K := Kt q8
    exact td_return rfl dX7_skipBlanks_38 K
  · have K := Kf q8
    refine td_aload_n 0 dX7_skipBlanks_11 rfl ?_
    refine gf_X7_9 rfl kp_11 dX7_skipBlanks_12 ?_
    refine td_aload_n 0 dX7_skipBlanks_15 rfl ?_
    refine gf_X7_32 rfl kp_11 dX7_skipBlanks_16 ?_
    obtain ⟨e19, K⟩ := K
    refine td_ialdc (j := (ix (h 11 6))) kp_12 (by decide) e19 rfl dX7_skipBlanks_19 ?_
    refine td_bipush (v := 32) dX7_skipBlanks_20 (by decide) ?_
    obtain ⟨Kt, Kf⟩ := K
    refine td_icmp_ne (tgt := 38) dX7_skipBlanks_22 (by decide) (fun q22 => ?_) (fun q22 => ?_)
    · have K := Kt q22
      exact td_return rfl dX7_skipBlanks_38 K
    · have K := Kf q22
      refine td_aload_n 0 dX7_skipBlanks_25 rfl ?_
      refine td_dup dX7_skipBlanks_26 rfl ?_
      refine gf_X7_32 rfl kp_11 dX7_skipBlanks_27 ?_
      refine td_iconst (v := 1) dX7_skipBlanks_30 (by decide) ?_
      refine td_iadd dX7_skipBlanks_31 ?_
      refine pf_X7_32 rfl kp_11 dX7_skipBlanks_32 ?_
      refine td_goto (tgt := 0) dX7_skipBlanks_35 (by decide) ?_
      exact K
set_option maxRecDepth 20000 in
set_option maxHeartbeats 4000000 in
theorem gX7_byteHere_0 {G : td_G} {d : Nat} {Post : td_P} {h : td_H} (K : (¬ (h 11 4) ≤ (h 11 6) → (vp_in (h 11 6) 80 ∧ True)) ∧ (Post (some (.int (if (h 11 4) ≤ (h 11 6) then (-1) else (h 12 (ix (h 11 6))) : Int32))) h)) : td_J G d mX7_byteHere Post 0 [(0, .ref 11)] [] h := by
  refine td_aload_n 0 dX7_byteHere_0 rfl ?_
  refine gf_X7_32 rfl kp_11 dX7_byteHere_1 ?_
  refine td_aload_n 0 dX7_byteHere_4 rfl ?_
  refine gf_X7_28 rfl kp_11 dX7_byteHere_5 ?_
  obtain ⟨Ks8, K⟩ := K
  have KJ24 : td_J G d mX7_byteHere Post 24 [(0, .ref 11)] [.int (if (h 11 4) ≤ (h 11 6) then (-1) else (h 12 (ix (h 11 6))) : Int32)] h := by
    exact td_ireturn rfl dX7_byteHere_24 K
  refine td_icmp_ge (tgt := 23) dX7_byteHere_8 (by decide) (fun q8 => ?_) (fun q8 => ?_)
  · skip
    refine td_iconst (v := (-1)) dX7_byteHere_23 (by decide) ?_
    exact td_to KJ24 rfl (by rw [show (if (h 11 4) ≤ (h 11 6) then (-1) else (h 12 (ix (h 11 6))) : Int32) = _ from if_pos q8]) rfl
  · have K := Ks8 q8
    refine td_aload_n 0 dX7_byteHere_11 rfl ?_
    refine gf_X7_9 rfl kp_11 dX7_byteHere_12 ?_
    refine td_aload_n 0 dX7_byteHere_15 rfl ?_
    refine gf_X7_32 rfl kp_11 dX7_byteHere_16 ?_
    obtain ⟨e19, K⟩ := K
    refine td_ialdc (j := (ix (h 11 6))) kp_12 (by decide) e19 rfl dX7_byteHere_19 ?_
    refine td_goto (tgt := 24) dX7_byteHere_20 (by decide) ?_
    exact td_to KJ24 rfl (by rw [show (if (h 11 4) ≤ (h 11 6) then (-1) else (h 12 (ix (h 11 6))) : Int32) = _ from if_neg q8]) rfl
theorem c_T_byteOf {G : td_G} {d : Nat} {h : td_H} (w : Int64) (x : Int32) : td_C G d mX7_byteOf [.long w, .int x] h (eR ((jlshr w (8 * x)).toInt32 &&& 255) h) := td_entry rfl (Nat.le_of_ble_eq_true rfl) rfl (gX7_byteOf_0 ⟨rfl, rfl⟩)
theorem c_T_fault {G : td_G} {d : Nat} {h : td_H} : td_C G d mX7_faultHere [.ref 11] h (eR ((-20) - h 11 6) h) := td_entry rfl (Nat.le_of_ble_eq_true rfl) rfl (gX7_faultHere_0 ⟨rfl, rfl⟩)
theorem c_T_skip {G : td_G} {d : Nat} {h : td_H} (L : Nat) (f : Nat → Nat) (i : Nat) (ht : tD L f h) (hp : h 11 6 = nI i) (hi : i ≤ L) : td_C G d mX7_skipBlanks [.ref 11] h (eV (hu h 11 6 (nI (sk L f i)))) := by
  refine td_entry rfl (Nat.le_of_ble_eq_true rfl) rfl ?_
  obtain ⟨hL, hf, h4, hb⟩ := ht
  have go : ∀ n j, L - j = n → j ≤ L → sk L f j = sk L f i → td_J G d mX7_skipBlanks (eV (hu h 11 6 (nI (sk L f i)))) 0 [(0, .ref 11)] [] (hu h 11 6 (nI j)) := by
    intro n
    have e4 : ∀ j, (hu h 11 6 (nI j)) 11 4 = nI L := fun j => by rw [hu_app, if_neg (by omega)]; exact h4
    have e6 : ∀ j, (hu h 11 6 (nI j)) 11 6 = nI j := fun j => by rw [hu_app, if_pos ⟨rfl, rfl⟩]
    have eb : ∀ j k, k < L → (hu h 11 6 (nI j)) 12 k = nI (f k) := fun j k hk => by rw [hu_app, if_neg (by omega)]; exact hb k hk
    induction n with
    | zero =>
      intro j h1 h2 h3
      refine gX7_skipBlanks_0 ?_
      rw [e4, e6]
      refine ⟨fun _ => ⟨rfl, by rw [← h3, sk_f (by omega)]⟩, fun y => absurd (nle_of y) (by omega)⟩
    | succ n ih =>
      intro j h1 h2 h3
      have hj : j < L := by omega
      refine gX7_skipBlanks_0 ?_
      rw [e4, e6, ixn (by omega), eb j j hj, hu_hu, nI_1]
      have fb := hf j hj
      refine ⟨fun y => absurd (le_of y) (by omega), fun _ => ⟨vp_in_nI (by omega) (by decide), fun y => ⟨rfl, ?_⟩, fun y => ?_⟩⟩
      · have y2 : ¬ f j = 32 := fun z => y (by rw [z]; rfl)
        rw [← h3, sk_f (fun z => y2 z.2)]
      · have y2 : f j = 32 := eq_of (b := 32) y
        exact ih (j + 1) (by omega) (by omega) (by rw [← sk_t hj y2]; exact h3)
  refine td_to (go (L - i) i rfl hi rfl) rfl rfl (hu_pl hp)
def bhI (L : Nat) (f : Nat → Nat) (j : Nat) : Int32 := if L ≤ j then -1 else nI (f j)
theorem c_T_here {G : td_G} {d : Nat} {h : td_H} (L : Nat) (f : Nat → Nat) (j : Nat) (ht : tD L f h) (hp : h 11 6 = nI j) (hj : j ≤ L) : td_C G d mX7_byteHere [.ref 11] h (eR (bhI L f j) h) := by
  obtain ⟨hL, hf, h4, hb⟩ := ht
  refine td_entry rfl (Nat.le_of_ble_eq_true rfl) rfl (gX7_byteHere_0 ?_)
  rw [h4, hp]
  refine ⟨fun y => ⟨vp_in_nI (by have := nle_of y; omega) (by decide), trivial⟩, ?_, rfl⟩
  unfold bhI
  rw [ite_c (nI_leI (by omega) (by omega)) _ _]
  by_cases y : L ≤ j
  · rw [if_pos y, if_pos y]
  · rw [if_neg y, if_neg y, ixn (by omega), hb j (by omega)]
theorem hu_comm (h : td_H) {a b a' b' : Nat} (v w : Int32) (n : a ≠ a') : hu (hu h a b v) a' b' w = hu (hu h a' b' w) a b v := by
  funext x y
  simp only [hu_app]
  by_cases e : x = a ∧ y = b
  · have : ¬ (x = a' ∧ y = b') := fun z => n (e.1.symm.trans z.1)
    rw [if_neg this, if_pos e, if_pos e]
  · simp [e]
set_option maxRecDepth 20000 in
set_option maxHeartbeats 4000000 in
theorem gX7_readTick_0 {G : td_G} {d : Nat} {Post : td_P} {L i : Nat} {f : Nat → Nat} {h : td_H} (K : tD L f h ∧ h 11 6 = nI i ∧ i ≤ L ∧ (td_J G (d + 1) mX7_readTick Post 11 [(0, .ref 11), (1, .int ((hu h 11 6 (nI (sk L f i))) 11 6)), (2, .int 0)] [] (hu h 11 6 (nI (sk L f i))))) : td_J G (d + 1) mX7_readTick Post 0 [(0, .ref 11)] [] h := by
  refine td_aload_n 0 dX7_readTick_0 rfl ?_
  obtain ⟨e1_0, K⟩ := K
  obtain ⟨e1_1, K⟩ := K
  obtain ⟨e1_2, K⟩ := K
  refine cl_X7_52 rfl kp_11 dX7_readTick_1 (Nat.le_of_ble_eq_true rfl) (c_T_skip L f i e1_0 e1_1 e1_2) (eV_k ?_)
  refine td_eqs (st2 := []) rfl ?_
  refine td_aload_n 0 dX7_readTick_4 rfl ?_
  refine gf_X7_32 rfl kp_11 dX7_readTick_5 ?_
  refine td_istore_n (lv2 := [(0, .ref 11), (1, .int ((hu h 11 6 (nI (sk L f i))) 11 6))]) dX7_readTick_8 (by decide) rfl ?_
  refine td_iconst (v := 0) dX7_readTick_9 (by decide) ?_
  refine td_istore_n (lv2 := [(0, .ref 11), (1, .int ((hu h 11 6 (nI (sk L f i))) 11 6)), (2, .int 0)]) dX7_readTick_10 (by decide) rfl ?_
  exact K
set_option maxRecDepth 20000 in
set_option maxHeartbeats 4000000 in
theorem gX7_readTick_11 {G : td_G} {d : Nat} {Post : td_P} {x1 x2 : Int32} {h : td_H} (K : ((h 11 4) ≤ (h 11 6) → (((h 11 6) = x1 → (Post (some (.int 0)) (hu h 11 6 x1))) ∧ (¬ (h 11 6) = x1 → ((x2 < 120 → (vp_in (h 11 5) 8 ∧ (Post (some (.int 1)) (hu h 13 (ix (h 11 5)) x2)))) ∧ (¬ x2 < 120 → (Post (some (.int 0)) (hu h 11 6 x1))))))) ∧ (¬ (h 11 4) ≤ (h 11 6) → (vp_in (h 11 6) 80 ∧ (((h 12 (ix (h 11 6))) < 48 → (((h 11 6) = x1 → (Post (some (.int 0)) (hu h 11 6 x1))) ∧ (¬ (h 11 6) = x1 → ((x2 < 120 → (vp_in (h 11 5) 8 ∧ (Post (some (.int 1)) (hu h 13 (ix (h 11 5)) x2)))) ∧ (¬ x2 < 120 → (Post (some (.int 0)) (hu h 11 6 x1))))))) ∧ (¬ (h 12 (ix (h 11 6))) < 48 → ((57 < (h 12 (ix (h 11 6))) → (((h 11 6) = x1 → (Post (some (.int 0)) (hu h 11 6 x1))) ∧ (¬ (h 11 6) = x1 → ((x2 < 120 → (vp_in (h 11 5) 8 ∧ (Post (some (.int 1)) (hu h 13 (ix (h 11 5)) x2)))) ∧ (¬ x2 < 120 → (Post (some (.int 0)) (hu h 11 6 x1))))))) ∧ (¬ 57 < (h 12 (ix (h 11 6))) → td_J G (d + 1) mX7_readTick Post 11 [(0, .ref 11), (1, .int x1), (2, .int (if (((x2 * 10) + (h 12 (ix (h 11 6)))) - 48) < 120 then (((x2 * 10) + (h 12 (ix (h 11 6)))) - 48) else 120 : Int32))] [] (hu h 11 6 ((h 11 6) + 1))))))))) : td_J G (d + 1) mX7_readTick Post 11 [(0, .ref 11), (1, .int x1), (2, .int x2)] [] h := by
  refine td_aload_n 0 dX7_readTick_11 rfl ?_
  refine gf_X7_32 rfl kp_11 dX7_readTick_12 ?_
  refine td_aload_n 0 dX7_readTick_15 rfl ?_
  refine gf_X7_28 rfl kp_11 dX7_readTick_16 ?_
  obtain ⟨Kt, Kf⟩ := K
  refine td_icmp_ge (tgt := 86) dX7_readTick_19 (by decide) (fun q19 => ?_) (fun q19 => ?_)
  · have K := Kt q19
    refine td_aload_n 0 dX7_readTick_86 rfl ?_
    refine gf_X7_32 rfl kp_11 dX7_readTick_87 ?_
    refine td_iload_n 1 dX7_readTick_90 rfl ?_
    obtain ⟨Kt, Kf⟩ := K
    refine td_icmp_eq (tgt := 100) dX7_readTick_91 (by decide) (fun q91 => ?_) (fun q91 => ?_)
    · have K := Kt q91
      refine td_aload_n 0 dX7_readTick_100 rfl ?_
      refine td_iload_n 1 dX7_readTick_101 rfl ?_
      refine pf_X7_32 rfl kp_11 dX7_readTick_102 ?_
      refine td_iconst (v := 0) dX7_readTick_105 (by decide) ?_
      exact td_zreturn rfl rfl dX7_readTick_106 K
    · have K := Kf q91
      refine td_iload_n 2 dX7_readTick_94 rfl ?_
      refine td_bipush (v := 120) dX7_readTick_95 (by decide) ?_
      obtain ⟨Kt, Kf⟩ := K
      refine td_icmp_lt (tgt := 107) dX7_readTick_97 (by decide) (fun q97 => ?_) (fun q97 => ?_)
      · have K := Kt q97
        refine td_aload_n 0 dX7_readTick_107 rfl ?_
        refine gf_X7_15 rfl kp_11 dX7_readTick_108 ?_
        refine td_aload_n 0 dX7_readTick_111 rfl ?_
        refine gf_X7_35 rfl kp_11 dX7_readTick_112 ?_
        refine td_iload_n 2 dX7_readTick_115 rfl ?_
        obtain ⟨e116, K⟩ := K
        refine td_iastc (j := (ix (h 11 5))) kp_13 (by decide) e116 rfl dX7_readTick_116 ?_
        refine td_iconst (v := 1) dX7_readTick_117 (by decide) ?_
        exact td_zreturn rfl rfl dX7_readTick_118 K
      · have K := Kf q97
        refine td_aload_n 0 dX7_readTick_100 rfl ?_
        refine td_iload_n 1 dX7_readTick_101 rfl ?_
        refine pf_X7_32 rfl kp_11 dX7_readTick_102 ?_
        refine td_iconst (v := 0) dX7_readTick_105 (by decide) ?_
        exact td_zreturn rfl rfl dX7_readTick_106 K
  · have K := Kf q19
    refine td_aload_n 0 dX7_readTick_22 rfl ?_
    refine gf_X7_9 rfl kp_11 dX7_readTick_23 ?_
    refine td_aload_n 0 dX7_readTick_26 rfl ?_
    refine gf_X7_32 rfl kp_11 dX7_readTick_27 ?_
    obtain ⟨e30, K⟩ := K
    refine td_ialdc (j := (ix (h 11 6))) kp_12 (by decide) e30 rfl dX7_readTick_30 ?_
    refine td_bipush (v := 48) dX7_readTick_31 (by decide) ?_
    obtain ⟨Kt, Kf⟩ := K
    refine td_icmp_lt (tgt := 86) dX7_readTick_33 (by decide) (fun q33 => ?_) (fun q33 => ?_)
    · have K := Kt q33
      refine td_aload_n 0 dX7_readTick_86 rfl ?_
      refine gf_X7_32 rfl kp_11 dX7_readTick_87 ?_
      refine td_iload_n 1 dX7_readTick_90 rfl ?_
      obtain ⟨Kt, Kf⟩ := K
      refine td_icmp_eq (tgt := 100) dX7_readTick_91 (by decide) (fun q91 => ?_) (fun q91 => ?_)
      · have K := Kt q91
        refine td_aload_n 0 dX7_readTick_100 rfl ?_
        refine td_iload_n 1 dX7_readTick_101 rfl ?_
        refine pf_X7_32 rfl kp_11 dX7_readTick_102 ?_
        refine td_iconst (v := 0) dX7_readTick_105 (by decide) ?_
        exact td_zreturn rfl rfl dX7_readTick_106 K
      · have K := Kf q91
        refine td_iload_n 2 dX7_readTick_94 rfl ?_
        refine td_bipush (v := 120) dX7_readTick_95 (by decide) ?_
        obtain ⟨Kt, Kf⟩ := K
        refine td_icmp_lt (tgt := 107) dX7_readTick_97 (by decide) (fun q97 => ?_) (fun q97 => ?_)
        · have K := Kt q97
          refine td_aload_n 0 dX7_readTick_107 rfl ?_
          refine gf_X7_15 rfl kp_11 dX7_readTick_108 ?_
          refine td_aload_n 0 dX7_readTick_111 rfl ?_
          refine gf_X7_35 rfl kp_11 dX7_readTick_112 ?_
          refine td_iload_n 2 dX7_readTick_115 rfl ?_
          obtain ⟨e116, K⟩ := K
          refine td_iastc (j := (ix (h 11 5))) kp_13 (by decide) e116 rfl dX7_readTick_116 ?_
          refine td_iconst (v := 1) dX7_readTick_117 (by decide) ?_
          exact td_zreturn rfl rfl dX7_readTick_118 K
        · have K := Kf q97
          refine td_aload_n 0 dX7_readTick_100 rfl ?_
          refine td_iload_n 1 dX7_readTick_101 rfl ?_
          refine pf_X7_32 rfl kp_11 dX7_readTick_102 ?_
          refine td_iconst (v := 0) dX7_readTick_105 (by decide) ?_
          exact td_zreturn rfl rfl dX7_readTick_106 K
    · have K := Kf q33
      refine td_aload_n 0 dX7_readTick_36 rfl ?_
      refine gf_X7_9 rfl kp_11 dX7_readTick_37 ?_
      refine td_aload_n 0 dX7_readTick_40 rfl ?_
      refine gf_X7_32 rfl kp_11 dX7_readTick_41 ?_
      refine td_ialdc (j := (ix (h 11 6))) kp_12 (by decide) e30 rfl dX7_readTick_44 ?_
      refine td_bipush (v := 57) dX7_readTick_45 (by decide) ?_
      obtain ⟨Kt, Kf⟩ := K
      refine td_icmp_gt (tgt := 86) dX7_readTick_47 (by decide) (fun q47 => ?_) (fun q47 => ?_)
      · have K := Kt q47
        refine td_aload_n 0 dX7_readTick_86 rfl ?_
        refine gf_X7_32 rfl kp_11 dX7_readTick_87 ?_
        refine td_iload_n 1 dX7_readTick_90 rfl ?_
        obtain ⟨Kt, Kf⟩ := K
        refine td_icmp_eq (tgt := 100) dX7_readTick_91 (by decide) (fun q91 => ?_) (fun q91 => ?_)
        · have K := Kt q91
          refine td_aload_n 0 dX7_readTick_100 rfl ?_
          refine td_iload_n 1 dX7_readTick_101 rfl ?_
          refine pf_X7_32 rfl kp_11 dX7_readTick_102 ?_
          refine td_iconst (v := 0) dX7_readTick_105 (by decide) ?_
          exact td_zreturn rfl rfl dX7_readTick_106 K
        · have K := Kf q91
          refine td_iload_n 2 dX7_readTick_94 rfl ?_
          refine td_bipush (v := 120) dX7_readTick_95 (by decide) ?_
          obtain ⟨Kt, Kf⟩ := K
          refine td_icmp_lt (tgt := 107) dX7_readTick_97 (by decide) (fun q97 => ?_) (fun q97 => ?_)
          · have K := Kt q97
            refine td_aload_n 0 dX7_readTick_107 rfl ?_
            refine gf_X7_15 rfl kp_11 dX7_readTick_108 ?_
            refine td_aload_n 0 dX7_readTick_111 rfl ?_
            refine gf_X7_35 rfl kp_11 dX7_readTick_112 ?_
            refine td_iload_n 2 dX7_readTick_115 rfl ?_
            obtain ⟨e116, K⟩ := K
            refine td_iastc (j := (ix (h 11 5))) kp_13 (by decide) e116 rfl dX7_readTick_116 ?_
            refine td_iconst (v := 1) dX7_readTick_117 (by decide) ?_
            exact td_zreturn rfl rfl dX7_readTick_118 K
          · have K := Kf q97
            refine td_aload_n 0 dX7_readTick_100 rfl ?_
            refine td_iload_n 1 dX7_readTick_101 rfl ?_
            refine pf_X7_32 rfl kp_11 dX7_readTick_102 ?_
            refine td_iconst (v := 0) dX7_readTick_105 (by decide) ?_
            exact td_zreturn rfl rfl dX7_readTick_106 K
      · have K := Kf q47
        refine td_bipush (v := 120) dX7_readTick_50 (by decide) ?_
        refine td_iload_n 2 dX7_readTick_52 rfl ?_
        refine td_bipush (v := 10) dX7_readTick_53 (by decide) ?_
        refine td_imul dX7_readTick_55 ?_
        refine td_aload_n 0 dX7_readTick_56 rfl ?_
        refine gf_X7_9 rfl kp_11 dX7_readTick_57 ?_
        refine td_aload_n 0 dX7_readTick_60 rfl ?_
        refine gf_X7_32 rfl kp_11 dX7_readTick_61 ?_
        refine td_ialdc (j := (ix (h 11 6))) kp_12 (by decide) e30 rfl dX7_readTick_64 ?_
        refine td_iadd dX7_readTick_65 ?_
        refine td_bipush (v := 48) dX7_readTick_66 (by decide) ?_
        refine td_isub dX7_readTick_68 ?_
        refine cm_X7_55 rfl dX7_readTick_69 (Nat.le_of_ble_eq_true rfl) ?_
        refine td_eqs (st2 := [.int (if (((x2 * 10) + (h 12 (ix (h 11 6)))) - 48) < 120 then (((x2 * 10) + (h 12 (ix (h 11 6)))) - 48) else 120 : Int32)]) rfl ?_
        refine td_istore_n (lv2 := [(0, .ref 11), (1, .int x1), (2, .int (if (((x2 * 10) + (h 12 (ix (h 11 6)))) - 48) < 120 then (((x2 * 10) + (h 12 (ix (h 11 6)))) - 48) else 120 : Int32))]) dX7_readTick_72 (by decide) rfl ?_
        refine td_aload_n 0 dX7_readTick_73 rfl ?_
        refine td_dup dX7_readTick_74 rfl ?_
        refine gf_X7_32 rfl kp_11 dX7_readTick_75 ?_
        refine td_iconst (v := 1) dX7_readTick_78 (by decide) ?_
        refine td_iadd dX7_readTick_79 ?_
        refine pf_X7_32 rfl kp_11 dX7_readTick_80 ?_
        refine td_goto (tgt := 11) dX7_readTick_83 (by decide) ?_
        exact K
theorem c_T_tick {G : td_G} {d : Nat} {h : td_H} (L : Nat) (f : Nat → Nat) (i k : Nat) (ht : tD L f h) (hp : h 11 6 = nI i) (hi : i ≤ L) (hk5 : h 11 5 = nI k) (hk : k < 8) : td_C G (d + 1) mX7_readTick [.ref 11] h (eR (b2i (rtV L f i < 120)) (if rtV L f i < 120 then hu (hu h 13 k (nI (rtV L f i))) 11 6 (nI (rtP L f i)) else hu h 11 6 (nI (rtP L f i)))) := by
  refine td_entry rfl (Nat.le_of_ble_eq_true rfl) rfl (gX7_readTick_0 (L := L) (f := f) (i := i) ⟨ht, hp, hi, ?_⟩)
  have hj := (sk_le (f := f) (L - i) i rfl hi).2
  have hrp : rtP L f i = if rtV L f i < 120 then (dg L f (sk L f i) 0).1 else sk L f i := rfl
  have hrv : rtV L f i = if (dg L f (sk L f i) 0).1 = sk L f i then 120 else (dg L f (sk L f i) 0).2 := rfl
  rw [hrp, hrv]
  obtain ⟨hL, hf, h4, hb⟩ := ht
  generalize sk L f i = j at hj
  have e4 : ∀ p, (hu h 11 6 (nI p)) 11 4 = nI L := fun j => by rw [hu_app, if_neg (by omega)]; exact h4
  have e5 : ∀ p, (hu h 11 6 (nI p)) 11 5 = nI k := fun j => by rw [hu_app, if_neg (by omega)]; exact hk5
  have e6 : ∀ p, (hu h 11 6 (nI p)) 11 6 = nI p := fun j => by rw [hu_app, if_pos ⟨rfl, rfl⟩]
  have eb : ∀ p k, k < L → (hu h 11 6 (nI p)) 12 k = nI (f k) := fun j k hk => by rw [hu_app, if_neg (by omega)]; exact hb k hk
  rw [e6]
  have go : ∀ n p v, L - p = n → j ≤ p → p ≤ L → v ≤ 120 → dg L f p v = dg L f j 0 → td_J G (d + 1) mX7_readTick (eR (b2i ((if (dg L f j 0).1 = j then 120 else (dg L f j 0).2) < 120)) (if (if (dg L f j 0).1 = j then 120 else (dg L f j 0).2) < 120 then hu (hu h 13 k (nI (if (dg L f j 0).1 = j then 120 else (dg L f j 0).2))) 11 6 (nI (if (if (dg L f j 0).1 = j then 120 else (dg L f j 0).2) < 120 then (dg L f j 0).1 else j)) else hu h 11 6 (nI (if (if (dg L f j 0).1 = j then 120 else (dg L f j 0).2) < 120 then (dg L f j 0).1 else j)))) 11 [(0, .ref 11), (1, .int (nI j)), (2, .int (nI v))] [] (hu h 11 6 (nI p)) := by
    intro n
    have exit : ∀ p v, j ≤ p → p ≤ L → v ≤ 120 → dg L f j 0 = (p, v) → ((nI p = nI j → (eR (b2i ((if (dg L f j 0).1 = j then 120 else (dg L f j 0).2) < 120)) (if (if (dg L f j 0).1 = j then 120 else (dg L f j 0).2) < 120 then hu (hu h 13 k (nI (if (dg L f j 0).1 = j then 120 else (dg L f j 0).2))) 11 6 (nI (if (if (dg L f j 0).1 = j then 120 else (dg L f j 0).2) < 120 then (dg L f j 0).1 else j)) else hu h 11 6 (nI (if (if (dg L f j 0).1 = j then 120 else (dg L f j 0).2) < 120 then (dg L f j 0).1 else j)))) (some (.int 0)) (hu (hu h 11 6 (nI p)) 11 6 (nI j))) ∧ (¬ nI p = nI j → ((nI v < 120 → (vp_in (nI k) 8 ∧ (eR (b2i ((if (dg L f j 0).1 = j then 120 else (dg L f j 0).2) < 120)) (if (if (dg L f j 0).1 = j then 120 else (dg L f j 0).2) < 120 then hu (hu h 13 k (nI (if (dg L f j 0).1 = j then 120 else (dg L f j 0).2))) 11 6 (nI (if (if (dg L f j 0).1 = j then 120 else (dg L f j 0).2) < 120 then (dg L f j 0).1 else j)) else hu h 11 6 (nI (if (if (dg L f j 0).1 = j then 120 else (dg L f j 0).2) < 120 then (dg L f j 0).1 else j)))) (some (.int 1)) (hu (hu h 11 6 (nI p)) 13 (ix (nI k)) (nI v)))) ∧ (¬ nI v < 120 → (eR (b2i ((if (dg L f j 0).1 = j then 120 else (dg L f j 0).2) < 120)) (if (if (dg L f j 0).1 = j then 120 else (dg L f j 0).2) < 120 then hu (hu h 13 k (nI (if (dg L f j 0).1 = j then 120 else (dg L f j 0).2))) 11 6 (nI (if (if (dg L f j 0).1 = j then 120 else (dg L f j 0).2) < 120 then (dg L f j 0).1 else j)) else hu h 11 6 (nI (if (if (dg L f j 0).1 = j then 120 else (dg L f j 0).2) < 120 then (dg L f j 0).1 else j)))) (some (.int 0)) (hu (hu h 11 6 (nI p)) 11 6 (nI j)))))) := by
      intro p v h1 h2 h3 he
      rw [he]
      refine ⟨fun y => ?_, fun y => ⟨fun z => ⟨vp_in_nI hk (by decide), ?_⟩, fun z => ?_⟩⟩
      · have y2 : p = j := eq_of y
        rw [if_pos y2, if_neg (by decide), if_neg (by decide), hu_hu]
        exact ⟨rfl, rfl⟩
      · have y2 : ¬ p = j := fun w => y (by rw [w])
        have z2 : v < 120 := lt_of (b := 120) z
        rw [if_neg y2, if_pos z2, if_pos z2, ixn (by omega), hu_comm h (a := 11) (b := 6) (a' := 13) (b' := k) (nI p) (nI v) (by decide)]
        exact ⟨by rw [show b2i (v < 120) = 1 from b2i_1.mpr z2], rfl⟩
      · have y2 : ¬ p = j := fun w => y (by rw [w])
        have z2 : ¬ v < 120 := fun w => z ((nI_ltI (a := v) (b := 120) (by omega) (by decide)).mpr w)
        rw [if_neg y2, if_neg z2, if_neg z2, hu_hu]
        exact ⟨by rw [show b2i (v < 120) = 0 from b2i_0.mpr z2], rfl⟩
    induction n with
    | zero =>
      intro p v h1 h2 h3 h5 he
      have ex := exit p v h2 h3 h5 (by rw [← he, dg_f (fun z => by have := z.1; omega)])
      refine gX7_readTick_11 ?_
      rw [e4, e6, e5]
      exact ⟨fun _ => ex, fun y => absurd (nle_of y) (by omega)⟩
    | succ n ih =>
      intro p v h1 h2 h3 h5 he
      have hpL : p < L := by omega
      have fb := hf p hpL
      refine gX7_readTick_11 ?_
      rw [e4, e6, e5, ixn (i := p) (by omega), eb p p hpL]
      refine ⟨fun y => absurd (le_of y) (by omega), fun _ => ⟨vp_in_nI (by omega) (by decide), fun y => ?_, fun y => ⟨fun z => ?_, fun z => ?_⟩⟩⟩
      · have y2 : f p < 48 := lt_of (b := 48) y
        exact exit p v h2 h3 h5 (by rw [← he, dg_f (fun w => by have := w.2.1; omega)])
      · have z2 : 57 < f p := lt_of (a := 57) z
        exact exit p v h2 h3 h5 (by rw [← he, dg_f (fun w => by have := w.2.2; omega)])
      · have y2 : 48 ≤ f p := nlt_of (b := 48) y
        have z2 : f p ≤ 57 := nlt_of (a := 57) z
        have eV : (if (nI v * 10 + nI (f p) - 48) < 120 then (nI v * 10 + nI (f p) - 48) else 120 : Int32) = nI (min 120 (v * 10 + (f p - 48))) := by
          rw [show (10 : Int32) = nI 10 from rfl, pk_mul, nI_add, show (48 : Int32) = nI 48 from rfl, pk_sub (by omega), show v * 10 + f p - 48 = v * 10 + (f p - 48) by omega]
          have hw : v * 10 + (f p - 48) < 2 ^ 31 := by omega
          rw [ite_c (p := nI (v * 10 + (f p - 48)) < 120) (q := v * 10 + (f p - 48) < 120) (nI_ltI (b := 120) hw (by decide)) _ _]
          by_cases y : v * 10 + (f p - 48) < 120
          · rw [if_pos y, Nat.min_eq_right (by omega)]
          · rw [if_neg y, Nat.min_eq_left (by omega)]; rfl
        rw [eV, hu_hu, nI_1]
        exact ih (p + 1) _ (by omega) (by omega) (by omega) (Nat.min_le_left _ _) (by rw [← dg_t ⟨hpL, y2, z2⟩]; exact he)
  exact go (L - j) j 0 rfl (Nat.le_refl _) hj (by omega) rfl
set_option maxRecDepth 20000 in
set_option maxHeartbeats 4000000 in
theorem gX7_readSide_0 {G : td_G} {d : Nat} {Post : td_P} {L i j : Nat} {f : Nat → Nat} {h : td_H} (K : tD L f h ∧ h 11 6 = nI i ∧ i ≤ L ∧ (tD L f (hu h 11 6 (nI (sk L f i))) ∧ (hu h 11 6 (nI (sk L f i))) 11 6 = nI j ∧ j ≤ L ∧ (((bhI L f j) = 115 → (vp_in ((hu h 11 6 (nI (sk L f i))) 11 5) 8 ∧ (Post (some (.int 1)) (hu (hu (hu h 11 6 (nI (sk L f i))) 14 (ix ((hu h 11 6 (nI (sk L f i))) 11 5)) (if (bhI L f j) = 115 then 0 else 1 : Int32)) 11 6 (((hu (hu h 11 6 (nI (sk L f i))) 14 (ix ((hu h 11 6 (nI (sk L f i))) 11 5)) (if (bhI L f j) = 115 then 0 else 1 : Int32)) 11 6) + 1))))) ∧ (¬ (bhI L f j) = 115 → (((bhI L f j) = 104 → (vp_in ((hu h 11 6 (nI (sk L f i))) 11 5) 8 ∧ (Post (some (.int 1)) (hu (hu (hu h 11 6 (nI (sk L f i))) 14 (ix ((hu h 11 6 (nI (sk L f i))) 11 5)) (if (bhI L f j) = 115 then 0 else 1 : Int32)) 11 6 (((hu (hu h 11 6 (nI (sk L f i))) 14 (ix ((hu h 11 6 (nI (sk L f i))) 11 5)) (if (bhI L f j) = 115 then 0 else 1 : Int32)) 11 6) + 1))))) ∧ (¬ (bhI L f j) = 104 → (Post (some (.int 0)) (hu h 11 6 (nI (sk L f i)))))))))) : td_J G (d + 1) mX7_readSide Post 0 [(0, .ref 11)] [] h := by
  refine td_aload_n 0 dX7_readSide_0 rfl ?_
  obtain ⟨e1_0, K⟩ := K
  obtain ⟨e1_1, K⟩ := K
  obtain ⟨e1_2, K⟩ := K
  refine cl_X7_52 rfl kp_11 dX7_readSide_1 (Nat.le_of_ble_eq_true rfl) (c_T_skip L f i e1_0 e1_1 e1_2) (eV_k ?_)
  refine td_eqs (st2 := []) rfl ?_
  refine td_aload_n 0 dX7_readSide_4 rfl ?_
  obtain ⟨e5_0, K⟩ := K
  obtain ⟨e5_1, K⟩ := K
  obtain ⟨e5_2, K⟩ := K
  refine cl_X7_61 rfl kp_11 dX7_readSide_5 (Nat.le_of_ble_eq_true rfl) (c_T_here L f j e5_0 e5_1 e5_2) (eR_k ?_)
  refine td_eqs (st2 := [.int (bhI L f j)]) rfl ?_
  refine td_istore_n (lv2 := [(0, .ref 11), (1, .int (bhI L f j))]) dX7_readSide_8 (by decide) rfl ?_
  refine td_iload_n 1 dX7_readSide_9 rfl ?_
  refine td_bipush (v := 115) dX7_readSide_10 (by decide) ?_
  obtain ⟨Kt, Kf⟩ := K
  refine td_icmp_eq (tgt := 23) dX7_readSide_12 (by decide) (fun q12 => ?_) (fun q12 => ?_)
  · have K := Kt q12
    refine td_aload_n 0 dX7_readSide_23 rfl ?_
    refine gf_X7_18 rfl kp_11 dX7_readSide_24 ?_
    refine td_aload_n 0 dX7_readSide_27 rfl ?_
    refine gf_X7_35 rfl kp_11 dX7_readSide_28 ?_
    refine td_iload_n 1 dX7_readSide_31 rfl ?_
    refine td_bipush (v := 115) dX7_readSide_32 (by decide) ?_
    have KJ42 : td_J G (d + 1) mX7_readSide Post 42 [(0, .ref 11), (1, .int (bhI L f j))] [.int (if (bhI L f j) = 115 then 0 else 1 : Int32), .int ((hu h 11 6 (nI (sk L f i))) 11 5), .ref 14] (hu h 11 6 (nI (sk L f i))) := by
      obtain ⟨e42, K⟩ := K
      refine td_iastc (j := (ix ((hu h 11 6 (nI (sk L f i))) 11 5))) kp_14 (by decide) e42 rfl dX7_readSide_42 ?_
      refine td_aload_n 0 dX7_readSide_43 rfl ?_
      refine td_dup dX7_readSide_44 rfl ?_
      refine gf_X7_32 rfl kp_11 dX7_readSide_45 ?_
      refine td_iconst (v := 1) dX7_readSide_48 (by decide) ?_
      refine td_iadd dX7_readSide_49 ?_
      refine pf_X7_32 rfl kp_11 dX7_readSide_50 ?_
      refine td_iconst (v := 1) dX7_readSide_53 (by decide) ?_
      exact td_zreturn rfl rfl dX7_readSide_54 K
    refine td_icmp_ne (tgt := 41) dX7_readSide_34 (by decide) (fun q34 => ?_) (fun q34 => ?_)
    · skip
      refine td_iconst (v := 1) dX7_readSide_41 (by decide) ?_
      exact td_to KJ42 rfl (by rw [show (if (bhI L f j) = 115 then 0 else 1 : Int32) = _ from if_neg q34]) rfl
    · skip
      refine td_iconst (v := 0) dX7_readSide_37 (by decide) ?_
      refine td_goto (tgt := 42) dX7_readSide_38 (by decide) ?_
      exact td_to KJ42 rfl (by rw [show (if (bhI L f j) = 115 then 0 else 1 : Int32) = _ from if_pos q34]) rfl
  · have K := Kf q12
    refine td_iload_n 1 dX7_readSide_15 rfl ?_
    refine td_bipush (v := 104) dX7_readSide_16 (by decide) ?_
    obtain ⟨Kt, Kf⟩ := K
    refine td_icmp_eq (tgt := 23) dX7_readSide_18 (by decide) (fun q18 => ?_) (fun q18 => ?_)
    · have K := Kt q18
      refine td_aload_n 0 dX7_readSide_23 rfl ?_
      refine gf_X7_18 rfl kp_11 dX7_readSide_24 ?_
      refine td_aload_n 0 dX7_readSide_27 rfl ?_
      refine gf_X7_35 rfl kp_11 dX7_readSide_28 ?_
      refine td_iload_n 1 dX7_readSide_31 rfl ?_
      refine td_bipush (v := 115) dX7_readSide_32 (by decide) ?_
      have KJ42 : td_J G (d + 1) mX7_readSide Post 42 [(0, .ref 11), (1, .int (bhI L f j))] [.int (if (bhI L f j) = 115 then 0 else 1 : Int32), .int ((hu h 11 6 (nI (sk L f i))) 11 5), .ref 14] (hu h 11 6 (nI (sk L f i))) := by
        obtain ⟨e42, K⟩ := K
        refine td_iastc (j := (ix ((hu h 11 6 (nI (sk L f i))) 11 5))) kp_14 (by decide) e42 rfl dX7_readSide_42 ?_
        refine td_aload_n 0 dX7_readSide_43 rfl ?_
        refine td_dup dX7_readSide_44 rfl ?_
        refine gf_X7_32 rfl kp_11 dX7_readSide_45 ?_
        refine td_iconst (v := 1) dX7_readSide_48 (by decide) ?_
        refine td_iadd dX7_readSide_49 ?_
        refine pf_X7_32 rfl kp_11 dX7_readSide_50 ?_
        refine td_iconst (v := 1) dX7_readSide_53 (by decide) ?_
        exact td_zreturn rfl rfl dX7_readSide_54 K
      refine td_icmp_ne (tgt := 41) dX7_readSide_34 (by decide) (fun q34 => ?_) (fun q34 => ?_)
      · skip
        refine td_iconst (v := 1) dX7_readSide_41 (by decide) ?_
        exact td_to KJ42 rfl (by rw [show (if (bhI L f j) = 115 then 0 else 1 : Int32) = _ from if_neg q34]) rfl
      · skip
        refine td_iconst (v := 0) dX7_readSide_37 (by decide) ?_
        refine td_goto (tgt := 42) dX7_readSide_38 (by decide) ?_
        exact td_to KJ42 rfl (by rw [show (if (bhI L f j) = 115 then 0 else 1 : Int32) = _ from if_pos q34]) rfl
    · have K := Kf q18
      refine td_iconst (v := 0) dX7_readSide_21 (by decide) ?_
      exact td_zreturn rfl rfl dX7_readSide_22 K
theorem bh_115 {L : Nat} {f : Nat → Nat} {j b : Nat} (hf : ∀ i, i < L → 32 ≤ f i ∧ f i ≤ 126) (hb : b < 200) : bhI L f j = nI b ↔ (j < L ∧ f j = b) := by
  unfold bhI
  by_cases y : L ≤ j
  · rw [if_pos y]
    constructor
    · intro z; exact absurd (show nI b < 0 by rw [← z]; decide) (nI_pos (by omega))
    · intro z; omega
  · rw [if_neg y]
    have fb := hf j (by omega)
    rw [nI_eq (by omega) (by omega)]
    exact ⟨fun z => ⟨by omega, z⟩, fun z => z.2⟩
theorem c_T_side {G : td_G} {d : Nat} {h : td_H} (L : Nat) (f : Nat → Nat) (i k : Nat) (ht : tD L f h) (hp : h 11 6 = nI i) (hi : i ≤ L) (hk5 : h 11 5 = nI k) (hk : k < 8) : td_C G (d + 1) mX7_readSide [.ref 11] h (eR (b2i (rsV L f i < 2)) (if rsV L f i < 2 then hu (hu h 14 k (nI (rsV L f i))) 11 6 (nI (rsP L f i)) else hu h 11 6 (nI (rsP L f i)))) := by
  have hj := (sk_le (f := f) (L - i) i rfl hi).2
  refine td_entry rfl (Nat.le_of_ble_eq_true rfl) rfl (gX7_readSide_0 (L := L) (f := f) (i := i) (j := sk L f i) ⟨ht, hp, hi, ht.pl _ _ (by decide), by rw [hu_app, if_pos ⟨rfl, rfl⟩], hj, ?_⟩)
  have hrp : rsP L f i = if rsV L f i < 2 then sk L f i + 1 else sk L f i := rfl
  have hrv : rsV L f i = if sk L f i < L then (if f (sk L f i) = 115 then 0 else if f (sk L f i) = 104 then 1 else 2) else 2 := rfl
  rw [hrp]
  have hf := ht.2.1
  have hL := ht.1
  have b1 := bh_115 (L := L) (f := f) (j := sk L f i) (b := 115) hf (by decide)
  have b2 := bh_115 (L := L) (f := f) (j := sk L f i) (b := 104) hf (by decide)
  rw [show (nI 115 : Int32) = 115 from rfl] at b1
  rw [show (nI 104 : Int32) = 104 from rfl] at b2
  generalize sk L f i = j at *
  have e5 : (hu h 11 6 (nI j)) 11 5 = nI k := by rw [hu_app, if_neg (by omega)]; exact hk5
  have e6 : ∀ v, (hu (hu h 11 6 (nI j)) 14 k v) 11 6 = nI j := fun v => by rw [hu_app, if_neg (by omega), hu_app, if_pos ⟨rfl, rfl⟩]
  rw [e5, ixn (by omega), e6, nI_1]
  have fin : ∀ v, hu (hu (hu h 11 6 (nI j)) 14 k v) 11 6 (nI (j + 1)) = hu (hu h 14 k v) 11 6 (nI (j + 1)) := fun v => by rw [hu_comm h (a := 11) (b := 6) (a' := 14) (b' := k) (nI j) v (by decide), hu_hu]
  refine ⟨fun y => ⟨vp_in_nI hk (by decide), ?_⟩, fun y => ⟨fun z => ⟨vp_in_nI hk (by decide), ?_⟩, fun z => ?_⟩⟩
  · have y2 := b1.mp y
    have e : rsV L f i = 0 := by rw [hrv, if_pos y2.1, if_pos y2.2]
    rw [e, if_pos y, fin, if_pos (by decide), if_pos (by decide)]
    exact ⟨rfl, rfl⟩
  · have z2 := b2.mp z
    have y2 : ¬ f j = 115 := fun w => y (b1.mpr ⟨z2.1, w⟩)
    have e : rsV L f i = 1 := by rw [hrv, if_pos z2.1, if_neg y2, if_pos z2.2]
    rw [e, if_neg y, fin, if_pos (by decide), if_pos (by decide)]
    exact ⟨rfl, rfl⟩
  · have e : rsV L f i = 2 := by
      rw [hrv]
      by_cases w : j < L
      · rw [if_pos w, if_neg (fun u => y (b1.mpr ⟨w, u⟩)), if_neg (fun u => z (b2.mpr ⟨w, u⟩))]
      · rw [if_neg w]
    rw [e, if_neg (by decide), if_neg (by decide)]
    exact ⟨rfl, rfl⟩
set_option maxRecDepth 20000 in
set_option maxHeartbeats 4000000 in
theorem gX7_readKind_0 {G : td_G} {d : Nat} {Post : td_P} {L b21 i j : Nat} {f : Nat → Nat} {h : td_H} (K : tD L f h ∧ h 11 6 = nI i ∧ i ≤ L ∧ (tD L f (hu h 11 6 (nI (sk L f i))) ∧ (hu h 11 6 (nI (sk L f i))) 11 6 = nI j ∧ j ≤ L ∧ ((0 ≤ (bhI L f j) → ((((bhI L f j).toUInt32 % 65536).toInt32) = nI b21 ∧ b21 < 128 ∧ True)) ∧ ((0 ≤ (if 0 ≤ (bhI L f j) then (lfI b21 6 0) else (-1) : Int32) → (vp_in ((hu h 11 6 (nI (sk L f i))) 11 5) 8 ∧ (Post (some (.int 1)) (hu (hu (hu h 11 6 (nI (sk L f i))) 15 (ix ((hu h 11 6 (nI (sk L f i))) 11 5)) (if 0 ≤ (bhI L f j) then (lfI b21 6 0) else (-1) : Int32)) 11 6 (((hu (hu h 11 6 (nI (sk L f i))) 15 (ix ((hu h 11 6 (nI (sk L f i))) 11 5)) (if 0 ≤ (bhI L f j) then (lfI b21 6 0) else (-1) : Int32)) 11 6) + 1))))) ∧ (¬ 0 ≤ (if 0 ≤ (bhI L f j) then (lfI b21 6 0) else (-1) : Int32) → (Post (some (.int 0)) (hu h 11 6 (nI (sk L f i))))))))) : td_J G (d + 4) mX7_readKind Post 0 [(0, .ref 11)] [] h := by
  refine td_aload_n 0 dX7_readKind_0 rfl ?_
  obtain ⟨e1_0, K⟩ := K
  obtain ⟨e1_1, K⟩ := K
  obtain ⟨e1_2, K⟩ := K
  refine cl_X7_52 rfl kp_11 dX7_readKind_1 (Nat.le_of_ble_eq_true rfl) (c_T_skip L f i e1_0 e1_1 e1_2) (eV_k ?_)
  refine td_eqs (st2 := []) rfl ?_
  refine td_aload_n 0 dX7_readKind_4 rfl ?_
  obtain ⟨e5_0, K⟩ := K
  obtain ⟨e5_1, K⟩ := K
  obtain ⟨e5_2, K⟩ := K
  refine cl_X7_61 rfl kp_11 dX7_readKind_5 (Nat.le_of_ble_eq_true rfl) (c_T_here L f j e5_0 e5_1 e5_2) (eR_k ?_)
  refine td_eqs (st2 := [.int (bhI L f j)]) rfl ?_
  refine td_istore_n (lv2 := [(0, .ref 11), (1, .int (bhI L f j))]) dX7_readKind_8 (by decide) rfl ?_
  refine td_iload_n 1 dX7_readKind_9 rfl ?_
  obtain ⟨Ks10, K⟩ := K
  have KJ24 : td_J G (d + 4) mX7_readKind Post 24 [(0, .ref 11), (1, .int (bhI L f j))] [.int (if 0 ≤ (bhI L f j) then (lfI b21 6 0) else (-1) : Int32)] (hu h 11 6 (nI (sk L f i))) := by
    refine td_istore_n (lv2 := [(0, .ref 11), (1, .int (bhI L f j)), (2, .int (if 0 ≤ (bhI L f j) then (lfI b21 6 0) else (-1) : Int32))]) dX7_readKind_24 (by decide) rfl ?_
    refine td_iload_n 2 dX7_readKind_25 rfl ?_
    obtain ⟨Kt, Kf⟩ := K
    refine td_if_ge (tgt := 31) dX7_readKind_26 (by decide) (fun q26 => ?_) (fun q26 => ?_)
    · have K := Kt q26
      refine td_aload_n 0 dX7_readKind_31 rfl ?_
      refine gf_X7_21 rfl kp_11 dX7_readKind_32 ?_
      refine td_aload_n 0 dX7_readKind_35 rfl ?_
      refine gf_X7_35 rfl kp_11 dX7_readKind_36 ?_
      refine td_iload_n 2 dX7_readKind_39 rfl ?_
      obtain ⟨e40, K⟩ := K
      refine td_iastc (j := (ix ((hu h 11 6 (nI (sk L f i))) 11 5))) kp_15 (by decide) e40 rfl dX7_readKind_40 ?_
      refine td_aload_n 0 dX7_readKind_41 rfl ?_
      refine td_dup dX7_readKind_42 rfl ?_
      refine gf_X7_32 rfl kp_11 dX7_readKind_43 ?_
      refine td_iconst (v := 1) dX7_readKind_46 (by decide) ?_
      refine td_iadd dX7_readKind_47 ?_
      refine pf_X7_32 rfl kp_11 dX7_readKind_48 ?_
      refine td_iconst (v := 1) dX7_readKind_51 (by decide) ?_
      exact td_zreturn rfl rfl dX7_readKind_52 K
    · have K := Kf q26
      refine td_iconst (v := 0) dX7_readKind_29 (by decide) ?_
      exact td_zreturn rfl rfl dX7_readKind_30 K
  refine td_if_ge (tgt := 17) dX7_readKind_10 (by decide) (fun q10 => ?_) (fun q10 => ?_)
  · have K := Ks10 q10
    refine td_ldcS rfl dX7_readKind_17 ?_
    refine td_iload_n 1 dX7_readKind_19 rfl ?_
    refine td_i2c dX7_readKind_20 ?_
    obtain ⟨z21, K⟩ := K
    obtain ⟨e21, K⟩ := K
    refine td_eqs (congrArg (fun z => Value.int z :: .ref 2000 :: []) z21.symm) ?_
    refine ck_X7_66 rfl e21 dX7_readKind_21 (Nat.le_of_ble_eq_true rfl) ?_
    refine td_eqs (st2 := [.int (lfI b21 6 0)]) rfl ?_
    exact td_to KJ24 rfl (by rw [show (if 0 ≤ (bhI L f j) then (lfI b21 6 0) else (-1) : Int32) = _ from if_pos q10]) rfl
  · skip
    refine td_iconst (v := (-1)) dX7_readKind_13 (by decide) ?_
    refine td_goto (tgt := 24) dX7_readKind_14 (by decide) ?_
    exact td_to KJ24 rfl (by rw [show (if 0 ≤ (bhI L f j) then (lfI b21 6 0) else (-1) : Int32) = _ from if_neg q10]) rfl
theorem lf_kd {b : Nat} (h : b < 128) : lfI b 6 0 = if kdN b < 6 then nI (kdN b) else -1 := (by decide +kernel : ∀ b, b < 128 → lfI b 6 0 = if kdN b < 6 then nI (kdN b) else -1) b h
theorem c_T_kind {G : td_G} {d : Nat} {h : td_H} (L : Nat) (f : Nat → Nat) (i k : Nat) (ht : tD L f h) (hp : h 11 6 = nI i) (hi : i ≤ L) (hk5 : h 11 5 = nI k) (hk : k < 8) : td_C G (d + 4) mX7_readKind [.ref 11] h (eR (b2i (rkV L f i < 6)) (if rkV L f i < 6 then hu (hu h 15 k (nI (rkV L f i))) 11 6 (nI (rkP L f i)) else hu h 11 6 (nI (rkP L f i)))) := by
  have hj := (sk_le (f := f) (L - i) i rfl hi).2
  refine td_entry rfl (Nat.le_of_ble_eq_true rfl) rfl (gX7_readKind_0 (L := L) (f := f) (i := i) (j := sk L f i) (b21 := f (sk L f i)) ⟨ht, hp, hi, ht.pl _ _ (by decide), by rw [hu_app, if_pos ⟨rfl, rfl⟩], hj, ?_⟩)
  have hrp : rkP L f i = if rkV L f i < 6 then sk L f i + 1 else sk L f i := rfl
  have hrv : rkV L f i = if sk L f i < L then kdN (f (sk L f i)) else 6 := rfl
  rw [hrp]
  have hf := ht.2.1
  have hL := ht.1
  generalize sk L f i = j at *
  have e5 : (hu h 11 6 (nI j)) 11 5 = nI k := by rw [hu_app, if_neg (by omega)]; exact hk5
  have e6 : ∀ v, (hu (hu h 11 6 (nI j)) 15 k v) 11 6 = nI j := fun v => by rw [hu_app, if_neg (by omega), hu_app, if_pos ⟨rfl, rfl⟩]
  have fin : ∀ v, hu (hu (hu h 11 6 (nI j)) 15 k v) 11 6 (nI (j + 1)) = hu (hu h 15 k v) 11 6 (nI (j + 1)) := fun v => by rw [hu_comm h (a := 11) (b := 6) (a' := 15) (b' := k) (nI j) v (by decide), hu_hu]
  have val : (if 0 ≤ bhI L f j then lfI (f j) 6 0 else (-1) : Int32) = if rkV L f i < 6 then nI (rkV L f i) else -1 := by
    rw [hrv]
    unfold bhI
    by_cases y : j < L
    · have fb := hf j y
      rw [if_neg (by omega : ¬ L ≤ j), if_pos y, if_pos (show (0 : Int32) ≤ nI (f j) from (nI_leI (a := 0) (by decide) (by omega)).mpr (Nat.zero_le _)), lf_kd (by omega)]
    · rw [if_pos (by omega : L ≤ j), if_neg y, if_neg (by decide), if_neg (by decide)]
  rw [val, e5, ixn (by omega), e6, nI_1]
  refine ⟨fun y => ?_, fun y => ⟨vp_in_nI hk (by decide), ?_⟩, fun y => ?_⟩
  · unfold bhI at y ⊢
    by_cases z : L ≤ j
    · rw [if_pos z] at y; exact absurd y (by decide)
    · have fb := hf j (by omega)
      rw [if_neg z]
      exact ⟨(by decide +kernel : ∀ b, b < 128 → ((nI b).toUInt32 % 65536).toInt32 = nI b) (f j) (by omega), by omega, trivial⟩
  · by_cases z : rkV L f i < 6
    · rw [if_pos z, if_pos z, if_pos z, fin, show b2i (rkV L f i < 6) = 1 from b2i_1.mpr z]
      exact ⟨rfl, rfl⟩
    · rw [if_neg z] at y
      exact absurd y (by decide)
  · by_cases z : rkV L f i < 6
    · rw [if_pos z] at y
      exact absurd ((nI_leI (a := 0) (by decide) (by omega)).mpr (Nat.zero_le _)) y
    · rw [if_neg z, if_neg z, show b2i (rkV L f i < 6) = 0 from b2i_0.mpr z]
      exact ⟨rfl, rfl⟩
