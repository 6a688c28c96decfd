/-! Door: one steps out, one steps in: the drum's and the fates' part -/
def relH (h : td_H) (D : Nat) (x1 x2 : Int32) : td_H := hu (hu (hu h (D + 3) (ix (h (D + 5) (ix x1))) ((h (D + 3) (ix (h (D + 5) (ix x1)))) &&& ((jshl 1 x1) ^^^ (-1)))) (D + 4) (ix (h (D + 5) (ix x1))) ((h (D + 4) (ix (h (D + 5) (ix x1)))) + x2)) D 8 ((h D 8) &&& ((jshl 1 x1) ^^^ (-1)))
theorem c_release {G : td_G} {d : Nat} {h : td_H} {D : Nat} (hD : td_kd D = 1) (x1 x2 : Int32) (e1 : vp_in x1 12) (e2 : vp_in (h (D + 5) (ix x1)) 4) : td_C G d mX1_release [.ref D, .int x1, .int x2] h (eV (relH h D x1 x2)) := by
  refine td_entry rfl (Nat.le_of_ble_eq_true rfl) rfl (gX1_release_0 hD ⟨e1, e2, rfl, ?_⟩)
  unfold relH
  congr 2
  · congr 1
    rw [hu_app, if_neg (by omega)]
  · rw [hu_app, if_neg (by omega), hu_app, if_neg (by omega)]
def takeH (h : td_H) (D : Nat) (x1 x2 x3 : Int32) : td_H := hu (hu (hu (hu h (D + 3) (ix x2) ((h (D + 3) (ix x2)) ||| (jshl 1 x1))) (D + 4) (ix x2) ((h (D + 4) (ix x2)) - x3)) (D + 5) (ix x1) x2) D 8 ((h D 8) ||| (jshl 1 x1))
theorem c_take {G : td_G} {d : Nat} {h : td_H} {D : Nat} (hD : td_kd D = 1) (x1 x2 x3 : Int32) (e1 : vp_in x1 12) (e2 : vp_in x2 4) : td_C G d mX1_take [.ref D, .int x1, .int x2, .int x3] h (eV (takeH h D x1 x2 x3)) := by
  refine td_entry rfl (Nat.le_of_ble_eq_true rfl) rfl (gX1_take_0 hD ⟨e2, e1, rfl, ?_⟩)
  unfold takeH
  congr 2
  · congr 2
    rw [hu_app, if_neg (by omega)]
  · rw [hu_app, if_neg (by omega), hu_app, if_neg (by omega), hu_app, if_neg (by omega)]
set_option maxRecDepth 20000 in
set_option maxHeartbeats 4000000 in
theorem gX2_end_0 {G : td_G} {d : Nat} {Post : td_P} {k0 : Nat} {x1 x2 : Int32} {h : td_H} (hk0 : td_kd k0 = 2) (K : vp_in x1 12 ∧ (Post none (hu (hu h (k0 + 3) (ix x1) x2) k0 4 (((hu h (k0 + 3) (ix x1) x2) k0 4) ||| (jshl 1 x1))))) : td_J G d mX2_end Post 0 [(0, .ref k0), (1, .int x1), (2, .int x2)] [] h := by
  refine td_aload_n 0 dX2_end_0 rfl ?_
  refine gf_X2_18 rfl hk0 dX2_end_1 ?_
  refine td_iload_n 1 dX2_end_4 rfl ?_
  refine td_iload_n 2 dX2_end_5 rfl ?_
  obtain ⟨e6, K⟩ := K
  refine td_iastc (j := (ix x1)) (kd_2_2 hk0) (by decide) e6 rfl dX2_end_6 ?_
  refine td_aload_n 0 dX2_end_7 rfl ?_
  refine td_dup dX2_end_8 rfl ?_
  refine gf_X2_24 rfl hk0 dX2_end_9 ?_
  refine td_iconst (v := 1) dX2_end_12 (by decide) ?_
  refine td_iload_n 1 dX2_end_13 rfl ?_
  refine td_ishl dX2_end_14 ?_
  refine td_ior dX2_end_15 ?_
  refine pf_X2_24 rfl hk0 dX2_end_16 ?_
  exact td_return rfl dX2_end_19 K
def endH (h : td_H) (F : Nat) (x1 x2 : Int32) : td_H := hu (hu h (F + 3) (ix x1) x2) F 4 ((h F 4) ||| (jshl 1 x1))
theorem c_F_end {G : td_G} {d : Nat} {h : td_H} {F : Nat} (hF : td_kd F = 2) (x1 x2 : Int32) (e1 : vp_in x1 12) : td_C G d mX2_end [.ref F, .int x1, .int x2] h (eV (endH h F x1 x2)) := by
  refine td_entry rfl (Nat.le_of_ble_eq_true rfl) rfl (gX2_end_0 hF ⟨e1, rfl, ?_⟩)
  unfold endH
  congr 1
  rw [hu_app, if_neg (by omega)]
set_option maxRecDepth 20000 in
set_option maxHeartbeats 4000000 in
theorem gX2_meet_0 {G : td_G} {d : Nat} {Post : td_P} {k0 : Nat} {x1 x2 : Int32} {h : td_H} (hk0 : td_kd k0 = 2) (K : vp_in x1 12 ∧ (td_J G d mX2_meet Post 12 [(0, .ref k0), (1, .int x1), (2, .int x2), (3, .int 0)] [] (hu h (k0 + 4) (ix x1) ((h (k0 + 4) (ix x1)) ||| x2)))) : td_J G d mX2_meet Post 0 [(0, .ref k0), (1, .int x1), (2, .int x2)] [] h := by
  refine td_aload_n 0 dX2_meet_0 rfl ?_
  refine gf_X2_21 rfl hk0 dX2_meet_1 ?_
  refine td_iload_n 1 dX2_meet_4 rfl ?_
  refine td_dup2 dX2_meet_5 rfl rfl ?_
  obtain ⟨e6, K⟩ := K
  refine td_ialdc (j := (ix x1)) (kd_2_3 hk0) (by decide) e6 rfl dX2_meet_6 ?_
  refine td_iload_n 2 dX2_meet_7 rfl ?_
  refine td_ior dX2_meet_8 ?_
  refine td_iastc (j := (ix x1)) (kd_2_3 hk0) (by decide) e6 rfl dX2_meet_9 ?_
  refine td_iconst (v := 0) dX2_meet_10 (by decide) ?_
  refine td_istore_n (lv2 := [(0, .ref k0), (1, .int x1), (2, .int x2), (3, .int 0)]) dX2_meet_11 (by decide) rfl ?_
  exact K
set_option maxRecDepth 20000 in
set_option maxHeartbeats 4000000 in
theorem gX2_meet_12 {G : td_G} {d : Nat} {Post : td_P} {k0 : Nat} {x1 x2 x3 : Int32} {h : td_H} (hk0 : td_kd k0 = 2) (K : (12 ≤ x3 → (Post none h)) ∧ (¬ 12 ≤ x3 → (((jshr x2 x3) = 0 → (Post none h)) ∧ (¬ (jshr x2 x3) = 0 → ((¬ ((jshr x2 x3) &&& 1) = 0 → (vp_in x3 12 ∧ True)) ∧ (td_J G d mX2_meet Post 12 [(0, .ref k0), (1, .int x1), (2, .int x2), (3, .int (x3 + 1))] [] (if ((jshr x2 x3) &&& 1) = 0 then h else (hu h (k0 + 4) (ix x3) ((h (k0 + 4) (ix x3)) ||| (jshl 1 x1))) : td_H))))))) : td_J G d mX2_meet Post 12 [(0, .ref k0), (1, .int x1), (2, .int x2), (3, .int x3)] [] h := by
  refine td_iload_n 3 dX2_meet_12 rfl ?_
  refine td_bipush (v := 12) dX2_meet_13 (by decide) ?_
  obtain ⟨Kt, Kf⟩ := K
  refine td_icmp_ge (tgt := 50) dX2_meet_15 (by decide) (fun q15 => ?_) (fun q15 => ?_)
  · have K := Kt q15
    exact td_return rfl dX2_meet_50 K
  · have K := Kf q15
    refine td_iload_n 2 dX2_meet_18 rfl ?_
    refine td_iload_n 3 dX2_meet_19 rfl ?_
    refine td_ishr dX2_meet_20 ?_
    obtain ⟨Kt, Kf⟩ := K
    refine td_if_eq (tgt := 50) dX2_meet_21 (by decide) (fun q21 => ?_) (fun q21 => ?_)
    · have K := Kt q21
      exact td_return rfl dX2_meet_50 K
    · have K := Kf q21
      refine td_iload_n 2 dX2_meet_24 rfl ?_
      refine td_iload_n 3 dX2_meet_25 rfl ?_
      refine td_ishr dX2_meet_26 ?_
      refine td_iconst (v := 1) dX2_meet_27 (by decide) ?_
      refine td_iand dX2_meet_28 ?_
      obtain ⟨Ks29, K⟩ := K
      have KJ44 : td_J G d mX2_meet Post 44 [(0, .ref k0), (1, .int x1), (2, .int x2), (3, .int x3)] [] (if ((jshr x2 x3) &&& 1) = 0 then h else (hu h (k0 + 4) (ix x3) ((h (k0 + 4) (ix x3)) ||| (jshl 1 x1))) : td_H) := by
        refine td_iinc 3 (v := x3 + 1) (lv2 := [(0, .ref k0), (1, .int x1), (2, .int x2), (3, .int (x3 + 1))]) dX2_meet_44 rfl (congrArg (x3 + ·) (by decide)) (by decide) rfl ?_
        refine td_goto (tgt := 12) dX2_meet_47 (by decide) ?_
        exact K
      refine td_if_eq (tgt := 44) dX2_meet_29 (by decide) (fun q29 => ?_) (fun q29 => ?_)
      · skip
        exact td_to KJ44 rfl rfl (by rw [show (if ((jshr x2 x3) &&& 1) = 0 then h else (hu h (k0 + 4) (ix x3) ((h (k0 + 4) (ix x3)) ||| (jshl 1 x1))) : td_H) = _ from if_pos q29])
      · have K := Ks29 q29
        refine td_aload_n 0 dX2_meet_32 rfl ?_
        refine gf_X2_21 rfl hk0 dX2_meet_33 ?_
        refine td_iload_n 3 dX2_meet_36 rfl ?_
        refine td_dup2 dX2_meet_37 rfl rfl ?_
        obtain ⟨e38, K⟩ := K
        refine td_ialdc (j := (ix x3)) (kd_2_3 hk0) (by decide) e38 rfl dX2_meet_38 ?_
        refine td_iconst (v := 1) dX2_meet_39 (by decide) ?_
        refine td_iload_n 1 dX2_meet_40 rfl ?_
        refine td_ishl dX2_meet_41 ?_
        refine td_ior dX2_meet_42 ?_
        refine td_iastc (j := (ix x3)) (kd_2_3 hk0) (by decide) e38 rfl dX2_meet_43 ?_
        exact td_to KJ44 rfl rfl (by rw [show (if ((jshr x2 x3) &&& 1) = 0 then h else (hu h (k0 + 4) (ix x3) ((h (k0 + 4) (ix x3)) ||| (jshl 1 x1))) : td_H) = _ from if_neg q29])
/-- p has met these -/
def meetH (h : td_H) (F p : Nat) (m : Nat → Bool) : td_H := fun a b => if a = F + 4 ∧ b < 12 then (if b = p then h (F + 4) p ||| ms m else if m b then h (F + 4) b ||| jshl 1 (nI p) else h (F + 4) b) else h a b
theorem c_meet {G : td_G} {d : Nat} {h : td_H} {F : Nat} (hF : td_kd F = 2) (x1 x2 : Int32) (m : Nat → Bool) (hx : vp_in x1 12) (hm : x2 = ms m) (hn : m (ix x1) = false) : td_C G d mX2_meet [.ref F, .int x1, .int x2] h (eV (meetH h F (ix x1) m)) := by
  obtain ⟨p, hp, rfl⟩ := vp_in_of hx (by decide)
  have ep : ix (nI p) = p := ixn (by omega)
  rw [ep] at hn ⊢
  subst hm
  refine td_entry rfl (Nat.le_of_ble_eq_true rfl) rfl (gX2_meet_0 hF ⟨hx, ?_⟩)
  rw [ep]
  have fin : ∀ k, k ≤ 12 → (∀ j, k ≤ j → j < 12 → m j = false) → (fun a b => if a = F + 4 ∧ b < 12 then (if b = p then h (F + 4) p ||| ms m else if b < k ∧ m b = true then h (F + 4) b ||| jshl 1 (nI p) else h (F + 4) b) else h a b) = meetH h F p m := by
    intro k hk hz
    funext a b
    unfold meetH
    by_cases e : a = F + 4 ∧ b < 12
    · rw [if_pos e, if_pos e]
      by_cases e2 : b = p
      · rw [if_pos e2, if_pos e2]
      · rw [if_neg e2, if_neg e2]
        by_cases e3 : m b = true
        · have : b < k := Nat.lt_of_not_le (fun z => by rw [hz b z e.2] at e3; cases e3)
          rw [if_pos ⟨this, e3⟩, if_pos e3]
        · rw [if_neg (fun z => e3 z.2), if_neg e3]
    · rw [if_neg e, if_neg e]
  refine td_for 12 (fun k => [(0, .ref F), (1, .int (nI p)), (2, .int (ms m)), (3, .int (nI k))]) (fun k => fun a b => if a = F + 4 ∧ b < 12 then (if b = p then h (F + 4) p ||| ms m else if b < k ∧ m b = true then h (F + 4) b ||| jshl 1 (nI p) else h (F + 4) b) else h a b) rfl ?_ (fun k hk ih => ?_) ?_
  · funext a b
    rw [hu_app]
    by_cases e : a = F + 4 ∧ b = p
    · rw [if_pos e, if_pos ⟨e.1, by omega⟩, if_pos e.2]
    · rw [if_neg e]
      by_cases e2 : a = F + 4 ∧ b < 12
      · rw [if_pos e2, if_neg (fun z => e ⟨e2.1, z⟩), if_neg (by omega), e2.1]
      · rw [if_neg e2]
  · refine gX2_meet_12 hF ⟨fun q => absurd (le_of (a := 12) q) (by omega), fun _ => ⟨fun q => ⟨rfl, ?_⟩, fun _ => ⟨fun _ => ⟨vp_in_nI hk (by decide), trivial⟩, ?_⟩⟩⟩
    · exact fin k (by omega) ((ms_shr m (by omega)).mp q)
    · refine td_to ih (by rw [nI_1]) rfl ?_
      rw [ms_bit m (by omega), ixn (by omega)]
      by_cases y : m k = true
      · have ykp : k ≠ p := fun z => by rw [z, hn] at y; cases y
        rw [if_pos y, if_neg (by decide)]
        funext a b
        rw [hu_app]
        by_cases e : a = F + 4 ∧ b = k
        · rw [if_pos e, e.1, e.2, if_pos ⟨rfl, hk⟩, if_neg ykp, if_neg (by omega), if_pos ⟨rfl, hk⟩, if_neg ykp, if_pos ⟨by omega, y⟩]
        · rw [if_neg e]
          by_cases e2 : a = F + 4 ∧ b < 12
          · rw [if_pos e2, if_pos e2]
            have e3 : (b < k ∧ m b = true) = (b < k + 1 ∧ m b = true) := by
              apply propext
              have : b ≠ k := fun z => e ⟨e2.1, z⟩
              constructor <;> intro z <;> exact ⟨by omega, z.2⟩
            simp only [e3]
          · rw [if_neg e2, if_neg e2]
      · rw [if_neg y, if_pos rfl]
        funext a b
        have e3 : (b < k ∧ m b = true) = (b < k + 1 ∧ m b = true) := by
          apply propext
          constructor
          · intro z; exact ⟨by omega, z.2⟩
          · intro z
            have : b ≠ k := fun w => y (w ▸ z.2)
            exact ⟨by omega, z.2⟩
        simp only [e3]
  · refine gX2_meet_12 hF ⟨fun _ => ⟨rfl, fin 12 (by omega) (fun j h1 h2 => absurd h2 (by omega))⟩, fun q => absurd (by decide) q⟩
