/-! Door: the tape is read, written -/
set_option maxRecDepth 20000 in
set_option maxHeartbeats 4000000 in
theorem gX7_read_0 {G : td_G} {d : Nat} {Post : td_P} {h : td_H} (K : td_J G (d + 5) mX7_read Post 12 [(0, .ref 11), (1, .int 0)] [] (hu (hu h 11 6 0) 11 5 0)) : td_J G (d + 5) mX7_read Post 0 [(0, .ref 11)] [] h := by
  refine td_aload_n 0 dX7_read_0 rfl ?_
  refine td_iconst (v := 0) dX7_read_1 (by decide) ?_
  refine pf_X7_32 rfl kp_11 dX7_read_2 ?_
  refine td_aload_n 0 dX7_read_5 rfl ?_
  refine td_iconst (v := 0) dX7_read_6 (by decide) ?_
  refine pf_X7_35 rfl kp_11 dX7_read_7 ?_
  refine td_iconst (v := 0) dX7_read_10 (by decide) ?_
  refine td_istore_n (lv2 := [(0, .ref 11), (1, .int 0)]) dX7_read_11 (by decide) rfl ?_
  exact K
set_option maxRecDepth 20000 in
set_option maxHeartbeats 4000000 in
theorem gX7_read_12 {G : td_G} {d : Nat} {Post : td_P} {L i ia ib ic k : Nat} {f : Nat → Nat} {x1 : Int32} {h : td_H} (K : (8 ≤ x1 → (Post (some (.int ((-20) - h 11 6))) h)) ∧ (¬ 8 ≤ x1 → (tD L f h ∧ h 11 6 = nI ia ∧ ia ≤ L ∧ h 11 5 = nI k ∧ k < 8 ∧ (∀ H19 : td_H, H19 = (if rtV L f ia < 120 then hu (hu h 13 k (nI (rtV L f ia))) 11 6 (nI (rtP L f ia)) else hu h 11 6 (nI (rtP L f ia)) : td_H) → (((b2i (rtV L f ia < 120)) = 0 → (Post (some (.int ((-20) - H19 11 6))) H19)) ∧ (¬ (b2i (rtV L f ia < 120)) = 0 → (tD L f H19 ∧ H19 11 6 = nI ib ∧ ib ≤ L ∧ H19 11 5 = nI k ∧ (∀ H26 : td_H, H26 = (if rsV L f ib < 2 then hu (hu H19 14 k (nI (rsV L f ib))) 11 6 (nI (rsP L f ib)) else hu H19 11 6 (nI (rsP L f ib)) : td_H) → (((b2i (rsV L f ib < 2)) = 0 → (Post (some (.int ((-20) - H26 11 6))) H26)) ∧ (¬ (b2i (rsV L f ib < 2)) = 0 → (tD L f H26 ∧ H26 11 6 = nI ic ∧ ic ≤ L ∧ H26 11 5 = nI k ∧ (∀ H33 : td_H, H33 = (if rkV L f ic < 6 then hu (hu H26 15 k (nI (rkV L f ic))) 11 6 (nI (rkP L f ic)) else hu H26 11 6 (nI (rkP L f ic)) : td_H) → ((¬ (b2i (rkV L f ic < 6)) = 0 → (tD L f (hu H33 11 5 ((H33 11 5) + 1)) ∧ (hu H33 11 5 ((H33 11 5) + 1)) 11 6 = nI i ∧ i ≤ L ∧ (∀ H55 : td_H, H55 = hu (hu H33 11 5 ((H33 11 5) + 1)) 11 6 (nI (sk L f i)) → ((¬ (H55 11 6) = (H55 11 4) → (vp_in (H55 11 6) 80 ∧ ((¬ (H55 12 (ix (H55 11 6))) = 59 → (Post (some (.int ((-20) - H55 11 6))) H55)) ∧ ((H55 12 (ix (H55 11 6))) = 59 → ((¬ (H55 11 5) = 8 → td_J G (d + 5) mX7_read Post 12 [(0, .ref 11), (1, .int (x1 + 1))] [] (hu H55 11 6 ((H55 11 6) + 1))) ∧ ((H55 11 5) = 8 → (Post (some (.int ((-20) - H55 11 6))) H55))))))) ∧ ((H55 11 6) = (H55 11 4) → (Post (some (.int 0)) H55)))))) ∧ ((b2i (rkV L f ic < 6)) = 0 → (Post (some (.int ((-20) - H33 11 6))) H33))))))))))))))) : td_J G (d + 5) mX7_read Post 12 [(0, .ref 11), (1, .int x1)] [] h := by
  refine td_iload_n 1 dX7_read_12 rfl ?_
  refine td_bipush (v := 8) dX7_read_13 (by decide) ?_
  obtain ⟨Kt, Kf⟩ := K
  refine td_icmp_ge (tgt := 115) dX7_read_15 (by decide) (fun q15 => ?_) (fun q15 => ?_)
  · have K := Kt q15
    refine td_aload_n 0 dX7_read_115 rfl ?_
    refine cl_X7_48 rfl kp_11 dX7_read_116 (Nat.le_of_ble_eq_true rfl) (c_T_fault) (eR_k ?_)
    refine td_eqs (st2 := [.int ((-20) - h 11 6)]) rfl ?_
    exact td_ireturn rfl dX7_read_119 K
  · have K := Kf q15
    refine td_aload_n 0 dX7_read_18 rfl ?_
    obtain ⟨e19_0, K⟩ := K
    obtain ⟨e19_1, K⟩ := K
    obtain ⟨e19_2, K⟩ := K
    obtain ⟨e19_3, K⟩ := K
    obtain ⟨e19_4, K⟩ := K
    refine cl_X7_38 rfl kp_11 dX7_read_19 (Nat.le_of_ble_eq_true rfl) (c_T_tick L f ia k e19_0 e19_1 e19_2 e19_3 e19_4) (eR_k ?_)
    refine td_eqs (st2 := [.int (b2i (rtV L f ia < 120))]) rfl ?_
    obtain ⟨H19, E19⟩ : ∃ z : td_H, z = (if rtV L f ia < 120 then hu (hu h 13 k (nI (rtV L f ia))) 11 6 (nI (rtP L f ia)) else hu h 11 6 (nI (rtP L f ia)) : td_H) := ⟨_, rfl⟩
    have K := K H19 E19
    refine td_eqh E19 ?_
    obtain ⟨Kt, Kf⟩ := K
    refine td_if_eq (tgt := 39) dX7_read_22 (by decide) (fun q22 => ?_) (fun q22 => ?_)
    · have K := Kt q22
      refine td_aload_n 0 dX7_read_39 rfl ?_
      refine cl_X7_48 rfl kp_11 dX7_read_40 (Nat.le_of_ble_eq_true rfl) (c_T_fault) (eR_k ?_)
      refine td_eqs (st2 := [.int ((-20) - H19 11 6)]) rfl ?_
      exact td_ireturn rfl dX7_read_43 K
    · have K := Kf q22
      refine td_aload_n 0 dX7_read_25 rfl ?_
      obtain ⟨e26_0, K⟩ := K
      obtain ⟨e26_1, K⟩ := K
      obtain ⟨e26_2, K⟩ := K
      obtain ⟨e26_3, K⟩ := K
      refine cl_X7_42 rfl kp_11 dX7_read_26 (Nat.le_of_ble_eq_true rfl) (c_T_side L f ib k e26_0 e26_1 e26_2 e26_3 e19_4) (eR_k ?_)
      refine td_eqs (st2 := [.int (b2i (rsV L f ib < 2))]) rfl ?_
      obtain ⟨H26, E26⟩ : ∃ z : td_H, z = (if rsV L f ib < 2 then hu (hu H19 14 k (nI (rsV L f ib))) 11 6 (nI (rsP L f ib)) else hu H19 11 6 (nI (rsP L f ib)) : td_H) := ⟨_, rfl⟩
      have K := K H26 E26
      refine td_eqh E26 ?_
      obtain ⟨Kt, Kf⟩ := K
      refine td_if_eq (tgt := 39) dX7_read_29 (by decide) (fun q29 => ?_) (fun q29 => ?_)
      · have K := Kt q29
        refine td_aload_n 0 dX7_read_39 rfl ?_
        refine cl_X7_48 rfl kp_11 dX7_read_40 (Nat.le_of_ble_eq_true rfl) (c_T_fault) (eR_k ?_)
        refine td_eqs (st2 := [.int ((-20) - H26 11 6)]) rfl ?_
        exact td_ireturn rfl dX7_read_43 K
      · have K := Kf q29
        refine td_aload_n 0 dX7_read_32 rfl ?_
        obtain ⟨e33_0, K⟩ := K
        obtain ⟨e33_1, K⟩ := K
        obtain ⟨e33_2, K⟩ := K
        obtain ⟨e33_3, K⟩ := K
        refine cl_X7_45 rfl kp_11 dX7_read_33 (Nat.le_of_ble_eq_true rfl) (c_T_kind L f ic k e33_0 e33_1 e33_2 e33_3 e19_4) (eR_k ?_)
        refine td_eqs (st2 := [.int (b2i (rkV L f ic < 6))]) rfl ?_
        obtain ⟨H33, E33⟩ : ∃ z : td_H, z = (if rkV L f ic < 6 then hu (hu H26 15 k (nI (rkV L f ic))) 11 6 (nI (rkP L f ic)) else hu H26 11 6 (nI (rkP L f ic)) : td_H) := ⟨_, rfl⟩
        have K := K H33 E33
        refine td_eqh E33 ?_
        obtain ⟨Kt, Kf⟩ := K
        refine td_if_ne (tgt := 44) dX7_read_36 (by decide) (fun q36 => ?_) (fun q36 => ?_)
        · have K := Kt q36
          refine td_aload_n 0 dX7_read_44 rfl ?_
          refine td_dup dX7_read_45 rfl ?_
          refine gf_X7_35 rfl kp_11 dX7_read_46 ?_
          refine td_iconst (v := 1) dX7_read_49 (by decide) ?_
          refine td_iadd dX7_read_50 ?_
          refine pf_X7_35 rfl kp_11 dX7_read_51 ?_
          refine td_aload_n 0 dX7_read_54 rfl ?_
          obtain ⟨e55_0, K⟩ := K
          obtain ⟨e55_1, K⟩ := K
          obtain ⟨e55_2, K⟩ := K
          refine cl_X7_52 rfl kp_11 dX7_read_55 (Nat.le_of_ble_eq_true rfl) (c_T_skip L f i e55_0 e55_1 e55_2) (eV_k ?_)
          refine td_eqs (st2 := []) rfl ?_
          obtain ⟨H55, E55⟩ : ∃ z : td_H, z = hu (hu H33 11 5 ((H33 11 5) + 1)) 11 6 (nI (sk L f i)) := ⟨_, rfl⟩
          have K := K H55 E55
          refine td_eqh E55 ?_
          refine td_aload_n 0 dX7_read_58 rfl ?_
          refine gf_X7_32 rfl kp_11 dX7_read_59 ?_
          refine td_aload_n 0 dX7_read_62 rfl ?_
          refine gf_X7_28 rfl kp_11 dX7_read_63 ?_
          obtain ⟨Kt, Kf⟩ := K
          refine td_icmp_ne (tgt := 71) dX7_read_66 (by decide) (fun q66 => ?_) (fun q66 => ?_)
          · have K := Kt q66
            refine td_aload_n 0 dX7_read_71 rfl ?_
            refine gf_X7_9 rfl kp_11 dX7_read_72 ?_
            refine td_aload_n 0 dX7_read_75 rfl ?_
            refine gf_X7_32 rfl kp_11 dX7_read_76 ?_
            obtain ⟨e79, K⟩ := K
            refine td_ialdc (j := (ix (H55 11 6))) kp_12 (by decide) e79 rfl dX7_read_79 ?_
            refine td_bipush (v := 59) dX7_read_80 (by decide) ?_
            obtain ⟨Kt, Kf⟩ := K
            refine td_icmp_ne (tgt := 94) dX7_read_82 (by decide) (fun q82 => ?_) (fun q82 => ?_)
            · have K := Kt q82
              refine td_aload_n 0 dX7_read_94 rfl ?_
              refine cl_X7_48 rfl kp_11 dX7_read_95 (Nat.le_of_ble_eq_true rfl) (c_T_fault) (eR_k ?_)
              refine td_eqs (st2 := [.int ((-20) - H55 11 6)]) rfl ?_
              exact td_ireturn rfl dX7_read_98 K
            · have K := Kf q82
              refine td_aload_n 0 dX7_read_85 rfl ?_
              refine gf_X7_35 rfl kp_11 dX7_read_86 ?_
              refine td_bipush (v := 8) dX7_read_89 (by decide) ?_
              obtain ⟨Kt, Kf⟩ := K
              refine td_icmp_ne (tgt := 99) dX7_read_91 (by decide) (fun q91 => ?_) (fun q91 => ?_)
              · have K := Kt q91
                refine td_aload_n 0 dX7_read_99 rfl ?_
                refine td_dup dX7_read_100 rfl ?_
                refine gf_X7_32 rfl kp_11 dX7_read_101 ?_
                refine td_iconst (v := 1) dX7_read_104 (by decide) ?_
                refine td_iadd dX7_read_105 ?_
                refine pf_X7_32 rfl kp_11 dX7_read_106 ?_
                refine td_iinc 1 (v := x1 + 1) (lv2 := [(0, .ref 11), (1, .int (x1 + 1))]) dX7_read_109 rfl (congrArg (x1 + ·) (by decide)) (by decide) rfl ?_
                refine td_goto (tgt := 12) dX7_read_112 (by decide) ?_
                exact K
              · have K := Kf q91
                refine td_aload_n 0 dX7_read_94 rfl ?_
                refine cl_X7_48 rfl kp_11 dX7_read_95 (Nat.le_of_ble_eq_true rfl) (c_T_fault) (eR_k ?_)
                refine td_eqs (st2 := [.int ((-20) - H55 11 6)]) rfl ?_
                exact td_ireturn rfl dX7_read_98 K
          · have K := Kf q66
            refine td_iconst (v := 0) dX7_read_69 (by decide) ?_
            exact td_ireturn rfl dX7_read_70 K
        · have K := Kf q36
          refine td_aload_n 0 dX7_read_39 rfl ?_
          refine cl_X7_48 rfl kp_11 dX7_read_40 (Nat.le_of_ble_eq_true rfl) (c_T_fault) (eR_k ?_)
          refine td_eqs (st2 := [.int ((-20) - H33 11 6)]) rfl ?_
          exact td_ireturn rfl dX7_read_43 K
def FrT (h h' : td_H) : Prop := ∀ a b, ¬ ((a = 11 ∧ (b = 5 ∨ b = 6)) ∨ (13 ≤ a ∧ a ≤ 15)) → h' a b = h a b
def rdI (e : Nat × Nat) : Int32 := if e.1 = 0 then 0 else (-20) - nI e.2
def rdA (L : Nat) (f : Nat → Nat) (k : Nat) (h : td_H) : Prop := ∀ j, j < k → h 13 j = nI (tT L f j) ∧ h 14 j = nI (tS L f j) ∧ h 15 j = nI (tK L f j) ∧ tT L f j < 120 ∧ tS L f j < 2 ∧ tK L f j < 6
theorem c_T_read {G : td_G} {d : Nat} {h : td_H} (L : Nat) (f : Nat → Nat) (ht : tD L f h) : td_C G (d + 5) mX7_read [.ref 11] h (fun r h' => r = some (.int (rdI (rdE L f 8 0))) ∧ FrT h h' ∧ ((rdE L f 8 0).1 = 0 → h' 11 5 = nI (rdE L f 8 0).2 ∧ (rdE L f 8 0).2 ≤ 8 ∧ rdA L f (rdE L f 8 0).2 h')) := by
  have hL := ht.1
  have hf := ht.2.1
  refine td_entry rfl (Nat.le_of_ble_eq_true rfl) rfl (gX7_read_0 ?_)
  have fault : ∀ (h1 : td_H) (p : Nat), FrT h h1 → h1 11 6 = nI p → rdE L f 8 0 = (1, p) → (some (Value.int ((-20) - h1 11 6)) = some (.int (rdI (rdE L f 8 0))) ∧ FrT h h1 ∧ ((rdE L f 8 0).1 = 0 → h1 11 5 = nI (rdE L f 8 0).2 ∧ (rdE L f 8 0).2 ≤ 8 ∧ rdA L f (rdE L f 8 0).2 h1)) := by
    intro h1 p hF h6 he
    rw [he, h6]
    refine ⟨?_, hF, fun z => absurd z (by show ¬ 1 = 0; decide)⟩
    unfold rdI
    rw [if_neg (by show ¬ 1 = 0; decide)]
  have loop : ∀ m k (h1 : td_H), m + k = 8 → plc L f k ≤ L → rdE L f m k = rdE L f 8 0 → FrT h h1 → h1 11 6 = nI (plc L f k) → h1 11 5 = nI k → rdA L f k h1 → td_J G (d + 5) mX7_read (fun r h' => r = some (.int (rdI (rdE L f 8 0))) ∧ FrT h h' ∧ ((rdE L f 8 0).1 = 0 → h' 11 5 = nI (rdE L f 8 0).2 ∧ (rdE L f 8 0).2 ≤ 8 ∧ rdA L f (rdE L f 8 0).2 h')) 12 [(0, .ref 11), (1, .int (nI k))] [] h1 := by
    intro m
    induction m with
    | zero =>
      intro k h1 hmk hp he hF h6 h5 hA
      refine gX7_read_12 (L := L) (f := f) (i := 0) (ia := 0) (ib := 0) (ic := 0) (k := 0) ⟨fun _ => fault h1 _ hF h6 he.symm, fun y => absurd (nle_of (a := 8) y) (by omega)⟩
    | succ m ih =>
      intro k h1 hmk hp he hF h6 h5 hA
      have hk : k < 8 := by omega
      have tF : ∀ h2 : td_H, FrT h h2 → tD L f h2 := fun h2 q => ht.fr (fun a b z => q a b (by omega))
      have ia := rtP_le (f := f) hp
      have ib := rsP_le (f := f) ia
      have ic := rkP_le (f := f) ib
      have id := sk_le (f := f) (L - rkP L f (rsP L f (rtP L f (plc L f k)))) _ rfl ic
      rw [show rdE L f (m + 1) k = if rpO L f (plc L f k) = true then (if sk L f (rpP L f (plc L f k)) = L then (0, k + 1) else if f (sk L f (rpP L f (plc L f k))) = 59 ∧ k + 1 < 8 then rdE L f m (k + 1) else (1, sk L f (rpP L f (plc L f k)))) else (1, rpP L f (plc L f k)) from rfl] at he
      refine gX7_read_12 (L := L) (f := f) (ia := plc L f k) (ib := rtP L f (plc L f k)) (ic := rsP L f (rtP L f (plc L f k))) (i := rkP L f (rsP L f (rtP L f (plc L f k)))) (k := k) ⟨fun y => absurd (le_of (a := 8) y) (by omega), fun _ => ⟨tF h1 hF, h6, hp, h5, hk, fun H19 E19 => ⟨fun y => ?_, fun y => ?_⟩⟩⟩
      · have y2 : ¬ rtV L f (plc L f k) < 120 := b2i_0.mp y
        rw [if_neg y2] at E19
        rw [show rpO L f (plc L f k) = false by unfold rpO; simp; intro z; exact absurd z y2, if_neg (by decide)] at he
        refine fault H19 _ (fun a b n => ?_) (by rw [E19, hu_app, if_pos ⟨rfl, rfl⟩]) (by rw [← he]; unfold rpP; rw [if_neg y2])
        rw [E19, hu_app, if_neg (by omega)]; exact hF a b n
      · have y2 : rtV L f (plc L f k) < 120 := Decidable.byContradiction fun z => y (b2i_0.mpr z)
        rw [if_pos y2] at E19
        have F19 : FrT h H19 := fun a b n => by rw [E19, hu_app, if_neg (by omega), hu_app, if_neg (by omega)]; exact hF a b n
        have f19 : H19 11 5 = nI k := by rw [E19, hu_app, if_neg (by omega), hu_app, if_neg (by omega)]; exact h5
        refine ⟨tF H19 F19, by rw [E19, hu_app, if_pos ⟨rfl, rfl⟩], ia, f19, fun H26 E26 => ⟨fun z => ?_, fun z => ?_⟩⟩
        · have z2 : ¬ rsV L f (rtP L f (plc L f k)) < 2 := b2i_0.mp z
          rw [if_neg z2] at E26
          rw [show rpO L f (plc L f k) = false by unfold rpO; simp; intro _ w; exact absurd w z2, if_neg (by decide)] at he
          refine fault H26 _ (fun a b n => ?_) (by rw [E26, hu_app, if_pos ⟨rfl, rfl⟩]) (by rw [← he]; unfold rpP; rw [if_pos y2, if_neg z2])
          rw [E26, hu_app, if_neg (by omega)]; exact F19 a b n
        · have z2 : rsV L f (rtP L f (plc L f k)) < 2 := Decidable.byContradiction fun w => z (b2i_0.mpr w)
          rw [if_pos z2] at E26
          have F26 : FrT h H26 := fun a b n => by rw [E26, hu_app, if_neg (by omega), hu_app, if_neg (by omega)]; exact F19 a b n
          have f26 : H26 11 5 = nI k := by rw [E26, hu_app, if_neg (by omega), hu_app, if_neg (by omega)]; exact f19
          refine ⟨tF H26 F26, by rw [E26, hu_app, if_pos ⟨rfl, rfl⟩], ib, f26, fun H33 E33 => ⟨fun w => ?_, fun w => ?_⟩⟩
          · have w2 : rkV L f (rsP L f (rtP L f (plc L f k))) < 6 := Decidable.byContradiction fun v => w (b2i_0.mpr v)
            rw [if_pos w2] at E33
            have F33 : FrT h H33 := fun a b n => by rw [E33, hu_app, if_neg (by omega), hu_app, if_neg (by omega)]; exact F26 a b n
            have f33 : H33 11 5 = nI k := by rw [E33, hu_app, if_neg (by omega), hu_app, if_neg (by omega)]; exact f26
            have hO : rpO L f (plc L f k) = true := by unfold rpO; simp [y2, z2, w2]
            have hPP : rpP L f (plc L f k) = rkP L f (rsP L f (rtP L f (plc L f k))) := by unfold rpP; rw [if_pos y2, if_pos z2]
            rw [if_pos hO, hPP] at he
            have A33 : rdA L f (k + 1) H33 := fun j hj => by
              by_cases e : j = k
              · subst e
                refine ⟨?_, ?_, ?_, y2, z2, w2⟩
                · rw [E33, hu_app, if_neg (by omega), hu_app, if_neg (by omega), E26, hu_app, if_neg (by omega), hu_app, if_neg (by omega), E19, hu_app, if_neg (by omega), hu_app, if_pos ⟨rfl, rfl⟩]; rfl
                · rw [E33, hu_app, if_neg (by omega), hu_app, if_neg (by omega), E26, hu_app, if_neg (by omega), hu_app, if_pos ⟨rfl, rfl⟩]; rfl
                · rw [E33, hu_app, if_neg (by omega), hu_app, if_pos ⟨rfl, rfl⟩]; rfl
              · obtain ⟨a1, a2, a3, a4⟩ := hA j (by omega)
                refine ⟨?_, ?_, ?_, a4⟩
                · rw [E33, hu_app, if_neg (by omega), hu_app, if_neg (by omega), E26, hu_app, if_neg (by omega), hu_app, if_neg (by omega), E19, hu_app, if_neg (by omega), hu_app, if_neg (by omega)]; exact a1
                · rw [E33, hu_app, if_neg (by omega), hu_app, if_neg (by omega), E26, hu_app, if_neg (by omega), hu_app, if_neg (by omega), E19, hu_app, if_neg (by omega), hu_app, if_neg (by omega)]; exact a2
                · rw [E33, hu_app, if_neg (by omega), hu_app, if_neg (by omega), E26, hu_app, if_neg (by omega), hu_app, if_neg (by omega), E19, hu_app, if_neg (by omega), hu_app, if_neg (by omega)]; exact a3
            rw [f33, nI_1]
            have g6 : (hu H33 11 5 (nI (k + 1))) 11 6 = nI (rkP L f (rsP L f (rtP L f (plc L f k)))) := by rw [hu_app, if_neg (by omega), E33, hu_app, if_pos ⟨rfl, rfl⟩]
            refine ⟨tF _ (fun a b n => by rw [hu_app, if_neg (by omega)]; exact F33 a b n), g6, ic, fun H55 E55 => ?_⟩
            have F55 : FrT h H55 := fun a b n => by rw [E55, hu_app, if_neg (by omega), hu_app, if_neg (by omega)]; exact F33 a b n
            have t55 := tF H55 F55
            have f55 : H55 11 6 = nI (sk L f (rkP L f (rsP L f (rtP L f (plc L f k))))) := by rw [E55, hu_app, if_pos ⟨rfl, rfl⟩]
            have k55 : H55 11 5 = nI (k + 1) := by rw [E55, hu_app, if_neg (by omega), hu_app, if_pos ⟨rfl, rfl⟩]
            have A55 : rdA L f (k + 1) H55 := fun j hj => by
              obtain ⟨a1, a2, a3, a4⟩ := A33 j hj
              refine ⟨?_, ?_, ?_, a4⟩ <;> rw [E55, hu_app, if_neg (by omega), hu_app, if_neg (by omega)]
              · exact a1
              · exact a2
              · exact a3
            have hpl : plc L f (k + 1) = sk L f (rkP L f (rsP L f (rtP L f (plc L f k)))) + 1 := by
              show sk L f (rpP L f (plc L f k)) + 1 = _
              rw [hPP]
            generalize sk L f (rkP L f (rsP L f (rtP L f (plc L f k)))) = j at *
            rw [f55, t55.2.2.1, k55]
            refine ⟨fun v => ?_, fun v => ?_⟩
            · have v2 : ¬ j = L := fun u => v (by rw [u])
              have fb := hf j (by omega)
              rw [if_neg v2] at he
              rw [ixn (by omega), t55.2.2.2 j (by omega), nI_1]
              refine ⟨vp_in_nI (by omega) (by decide), fun u => ?_, fun u => ⟨fun s => ?_, fun s => ?_⟩⟩
              · have u2 : ¬ f j = 59 := fun r => u (by rw [r]; rfl)
                rw [if_neg (fun r => u2 r.1)] at he
                have z := fault H55 j F55 f55 he.symm
                rw [f55, k55] at z
                exact z
              · have u2 : f j = 59 := eq_of (b := 59) u
                have s2 : k + 1 < 8 := by
                  rcases Nat.lt_or_ge (k + 1) 8 with r | r
                  · exact r
                  · exact absurd (by rw [show k + 1 = 8 by omega]; rfl) s
                rw [if_pos ⟨u2, s2⟩] at he
                refine td_to (ih (k + 1) (hu H55 11 6 (nI (j + 1))) (by omega) (by omega) he (fun a b n => ?_) (by rw [hu_app, if_pos ⟨rfl, rfl⟩, hpl]) (by rw [hu_app, if_neg (by omega)]; exact k55) (fun i hi => ?_)) rfl rfl rfl
                · rw [hu_app, if_neg (by omega)]; exact F55 a b n
                · obtain ⟨a1, a2, a3, a4⟩ := A55 i hi
                  refine ⟨?_, ?_, ?_, a4⟩ <;> rw [hu_app, if_neg (by omega)]
                  · exact a1
                  · exact a2
                  · exact a3
              · have s2 : k + 1 = 8 := eq_of (b := 8) s
                rw [if_neg (fun r => by have := r.2; omega)] at he
                have z := fault H55 j F55 f55 he.symm
                rw [f55, k55] at z
                exact z
            · have v2 : j = L := eq_of v
              rw [if_pos v2] at he
              rw [← he]
              exact ⟨rfl, F55, fun _ => ⟨rfl, hk, A55⟩⟩
          · have w2 : ¬ rkV L f (rsP L f (rtP L f (plc L f k))) < 6 := b2i_0.mp w
            rw [if_neg w2] at E33
            rw [show rpO L f (plc L f k) = false by unfold rpO; simp; intro _ _; exact Nat.le_of_not_lt w2, if_neg (by decide)] at he
            refine fault H33 _ (fun a b n => ?_) (by rw [E33, hu_app, if_pos ⟨rfl, rfl⟩]) (by rw [← he]; unfold rpP; rw [if_pos y2, if_pos z2])
            rw [E33, hu_app, if_neg (by omega)]; exact F26 a b n
  refine loop 8 0 _ rfl (Nat.zero_le _) rfl (fun a b n => ?_) ?_ ?_ (fun j hj => absurd hj (by omega))
  · rw [hu_app, if_neg (by omega), hu_app, if_neg (by omega)]
  · rw [hu_app, if_neg (by omega), hu_app, if_pos ⟨rfl, rfl⟩]; rfl
  · rw [hu_app, if_pos ⟨rfl, rfl⟩]; rfl
def byI (w : Int64) (i : Nat) : Int32 := (jlshr w (8 * nI i)).toInt32 &&& 255
def byN (w : Int64) (i : Nat) : Nat := ix (byI w i)
theorem by_eq (w : Int64) (i : Nat) : byI w i = nI (byN w i) ∧ byN w i < 256 := by
  obtain ⟨j, hj, e⟩ := pk_andE ((jlshr w (8 * nI i)).toInt32) (m := 255) 8 (by decide)
  have e2 : byI w i = nI j := e
  have hj2 : j < 256 := by omega
  unfold byN
  rw [e2, ixn (by omega)]
  exact ⟨rfl, hj2⟩
def allB (p : Nat → Bool) : Nat → Bool
  | 0 => true
  | n + 1 => allB p n && p n
theorem allB_iff {p : Nat → Bool} : ∀ {n : Nat}, allB p n = true ↔ ∀ i, i < n → p i = true
  | 0 => ⟨fun _ i hi => absurd hi (by omega), fun _ => rfl⟩
  | n + 1 => by
    unfold allB
    rw [Bool.and_eq_true, allB_iff (n := n)]
    constructor
    · intro z i hi
      rcases Nat.lt_or_ge i n with y | y
      · exact z.1 i y
      · rw [show i = n by omega]; exact z.2
    · intro z
      exact ⟨fun i hi => z i (by omega), z n (by omega)⟩
def plW (w : Int64) (i : Nat) : Bool := decide (32 ≤ byN w i) && decide (byN w i ≤ 126)
set_option maxRecDepth 20000 in
set_option maxHeartbeats 4000000 in
theorem gX7_isPlain_0 {G : td_G} {d : Nat} {Post : td_P} {x2 : Int32} {w0 : Int64} {h : td_H} (K : td_J G (d + 1) mX7_isPlain Post 2 [(0, .long w0), (2, .int x2), (3, .int 0)] [] h) : td_J G (d + 1) mX7_isPlain Post 0 [(0, .long w0), (2, .int x2)] [] h := by
  refine td_iconst (v := 0) dX7_isPlain_0 (by decide) ?_
  refine td_istore_n (lv2 := [(0, .long w0), (2, .int x2), (3, .int 0)]) dX7_isPlain_1 (by decide) rfl ?_
  exact K
set_option maxRecDepth 20000 in
set_option maxHeartbeats 4000000 in
theorem gX7_isPlain_2 {G : td_G} {d : Nat} {Post : td_P} {x2 x3 : Int32} {w0 : Int64} {h : td_H} (K : (x2 ≤ x3 → (Post (some (.int 1)) h)) ∧ (¬ x2 ≤ x3 → ((((jlshr w0 (8 * x3)).toInt32 &&& 255) < 32 → (Post (some (.int 0)) h)) ∧ (¬ ((jlshr w0 (8 * x3)).toInt32 &&& 255) < 32 → ((((jlshr w0 (8 * x3)).toInt32 &&& 255) ≤ 126 → td_J G (d + 1) mX7_isPlain Post 2 [(0, .long w0), (2, .int x2), (3, .int (x3 + 1))] [] h) ∧ (¬ ((jlshr w0 (8 * x3)).toInt32 &&& 255) ≤ 126 → (Post (some (.int 0)) h))))))) : td_J G (d + 1) mX7_isPlain Post 2 [(0, .long w0), (2, .int x2), (3, .int x3)] [] h := by
  refine td_iload_n 2 dX7_isPlain_2 rfl ?_
  refine td_iload_n 1 dX7_isPlain_3 rfl ?_
  obtain ⟨Kt, Kf⟩ := K
  refine td_icmp_ge (tgt := 36) dX7_isPlain_4 (by decide) (fun q4 => ?_) (fun q4 => ?_)
  · have K := Kt q4
    refine td_iconst (v := 1) dX7_isPlain_36 (by decide) ?_
    exact td_zreturn rfl rfl dX7_isPlain_37 K
  · have K := Kf q4
    refine td_lload_n 0 dX7_isPlain_7 rfl ?_
    refine td_iload_n 2 dX7_isPlain_8 rfl ?_
    refine cl_X7_24 rfl dX7_isPlain_9 (Nat.le_of_ble_eq_true rfl) (c_T_byteOf w0 x3) (eR_k ?_)
    refine td_eqs (st2 := [.int ((jlshr w0 (8 * x3)).toInt32 &&& 255)]) rfl ?_
    refine td_istore (lv2 := [(0, .long w0), (2, .int x2), (3, .int x3), (4, .int ((jlshr w0 (8 * x3)).toInt32 &&& 255))]) dX7_isPlain_12 (by decide) rfl ?_
    refine td_iload 3 dX7_isPlain_14 rfl ?_
    refine td_bipush (v := 32) dX7_isPlain_16 (by decide) ?_
    obtain ⟨Kt, Kf⟩ := K
    refine td_icmp_lt (tgt := 28) dX7_isPlain_18 (by decide) (fun q18 => ?_) (fun q18 => ?_)
    · have K := Kt q18
      refine td_iconst (v := 0) dX7_isPlain_28 (by decide) ?_
      exact td_zreturn rfl rfl dX7_isPlain_29 K
    · have K := Kf q18
      refine td_iload 3 dX7_isPlain_21 rfl ?_
      refine td_bipush (v := 126) dX7_isPlain_23 (by decide) ?_
      obtain ⟨Kt, Kf⟩ := K
      refine td_icmp_le (tgt := 30) dX7_isPlain_25 (by decide) (fun q25 => ?_) (fun q25 => ?_)
      · have K := Kt q25
        refine td_iinc 2 (v := x3 + 1) (lv2 := [(0, .long w0), (2, .int x2), (3, .int (x3 + 1)), (4, .int ((jlshr w0 (8 * x3)).toInt32 &&& 255))]) dX7_isPlain_30 rfl (congrArg (x3 + ·) (by decide)) (by decide) rfl ?_
        refine td_goto (tgt := 2) dX7_isPlain_33 (by decide) ?_
        refine td_drop (lv2 := [(0, .long w0), (2, .int x2), (3, .int (x3 + 1))]) [0, 1, 2] rfl ?_
        exact K
      · have K := Kf q25
        refine td_iconst (v := 0) dX7_isPlain_28 (by decide) ?_
        exact td_zreturn rfl rfl dX7_isPlain_29 K
theorem c_T_plain {G : td_G} {d : Nat} {h : td_H} (w : Int64) (x : Int32) (hx : vp_in x 9) : td_C G (d + 1) mX7_isPlain [.long w, .int x] h (eR (b2i (allB (plW w) (ix x) = true)) h) := by
  obtain ⟨n, hn, rfl⟩ := vp_in_of hx (by decide)
  rw [ixn (by omega)]
  refine td_entry rfl (Nat.le_of_ble_eq_true rfl) rfl (gX7_isPlain_0 ?_)
  have loop : ∀ m k, k + m = n → allB (plW w) k = true → td_J G (d + 1) mX7_isPlain (eR (b2i (allB (plW w) n = true)) h) 2 [(0, .long w), (2, .int (nI n)), (3, .int (nI k))] [] h := by
    intro m
    induction m with
    | zero =>
      intro k hk ha
      have : k = n := by omega
      subst this
      exact gX7_isPlain_2 ⟨fun _ => ⟨by rw [show b2i (allB (plW w) k = true) = 1 from b2i_1.mpr ha], rfl⟩, fun y => absurd (nle_of y) (by omega)⟩
    | succ m ih =>
      intro k hk ha
      obtain ⟨e, hb⟩ := by_eq w k
      have e' : (jlshr w (8 * nI k)).toInt32 &&& 255 = nI (byN w k) := e
      refine gX7_isPlain_2 ?_
      rw [e']
      have bad : ¬ plW w k = true → (some (Value.int 0) = some (.int (b2i (allB (plW w) n = true))) ∧ h = h) := fun z => by
        refine ⟨?_, rfl⟩
        rw [show b2i (allB (plW w) n = true) = 0 from b2i_0.mpr (fun y => z (allB_iff.mp y k (by omega)))]
      refine ⟨fun y => absurd (le_of y) (by omega), fun _ => ⟨fun y => bad (fun z => ?_), fun y => ⟨fun z => ?_, fun z => bad (fun v => ?_)⟩⟩⟩
      · have y2 := lt_of (b := 32) y
        unfold plW at z
        simp at z
        omega
      · have y2 := nlt_of (b := 32) y
        have z2 := le_of (b := 126) z
        refine td_to (ih (k + 1) (by omega) ?_) (by rw [nI_1]) rfl rfl
        unfold allB
        rw [ha]
        unfold plW
        simp
        omega
      · have z2 := nle_of (b := 126) z
        unfold plW at v
        simp at v
        omega
  exact loop n 0 (by omega) rfl
set_option maxRecDepth 20000 in
set_option maxHeartbeats 4000000 in
theorem gX7_append_0 {G : td_G} {d : Nat} {Post : td_P} {x3 : Int32} {w1 : Int64} {h : td_H} (K : td_J G (d + 1) mX7_append Post 5 [(0, .ref 11), (1, .long w1), (3, .int x3), (4, .int (x3 - 1))] [] h) : td_J G (d + 1) mX7_append Post 0 [(0, .ref 11), (1, .long w1), (3, .int x3)] [] h := by
  refine td_iload_n 2 dX7_append_0 rfl ?_
  refine td_iconst (v := 1) dX7_append_1 (by decide) ?_
  refine td_isub dX7_append_2 ?_
  refine td_istore (lv2 := [(0, .ref 11), (1, .long w1), (3, .int x3), (4, .int (x3 - 1))]) dX7_append_3 (by decide) rfl ?_
  exact K
set_option maxRecDepth 20000 in
set_option maxHeartbeats 4000000 in
theorem gX7_append_5 {G : td_G} {d : Nat} {Post : td_P} {x3 x4 : Int32} {w1 : Int64} {h : td_H} (K : (x4 < 0 → (Post none h)) ∧ (¬ x4 < 0 → ((80 ≤ (h 11 4) → (Post none h)) ∧ (¬ 80 ≤ (h 11 4) → (vp_in (h 11 4) 80 ∧ (∀ H33 : td_H, H33 = hu h 12 (ix (h 11 4)) ((jlshr w1 (8 * x4)).toInt32 &&& 255) → (td_J G (d + 1) mX7_append Post 5 [(0, .ref 11), (1, .long w1), (3, .int x3), (4, .int (x4 + (-1)))] [] (hu H33 11 4 ((H33 11 4) + 1))))))))) : td_J G (d + 1) mX7_append Post 5 [(0, .ref 11), (1, .long w1), (3, .int x3), (4, .int x4)] [] h := by
  refine td_iload 3 dX7_append_5 rfl ?_
  obtain ⟨Kt, Kf⟩ := K
  refine td_if_lt (tgt := 50) dX7_append_7 (by decide) (fun q7 => ?_) (fun q7 => ?_)
  · have K := Kt q7
    exact td_return rfl dX7_append_50 K
  · have K := Kf q7
    refine td_aload_n 0 dX7_append_10 rfl ?_
    refine gf_X7_28 rfl kp_11 dX7_append_11 ?_
    refine td_bipush (v := 80) dX7_append_14 (by decide) ?_
    obtain ⟨Kt, Kf⟩ := K
    refine td_icmp_ge (tgt := 50) dX7_append_16 (by decide) (fun q16 => ?_) (fun q16 => ?_)
    · have K := Kt q16
      exact td_return rfl dX7_append_50 K
    · have K := Kf q16
      refine td_aload_n 0 dX7_append_19 rfl ?_
      refine gf_X7_9 rfl kp_11 dX7_append_20 ?_
      refine td_aload_n 0 dX7_append_23 rfl ?_
      refine gf_X7_28 rfl kp_11 dX7_append_24 ?_
      refine td_lload_n 1 dX7_append_27 rfl ?_
      refine td_iload 3 dX7_append_28 rfl ?_
      refine cl_X7_24 rfl dX7_append_30 (Nat.le_of_ble_eq_true rfl) (c_T_byteOf w1 x4) (eR_k ?_)
      refine td_eqs (st2 := [.int ((jlshr w1 (8 * x4)).toInt32 &&& 255), .int (h 11 4), .ref 12]) rfl ?_
      obtain ⟨e33, K⟩ := K
      refine td_iastc (j := (ix (h 11 4))) kp_12 (by decide) e33 rfl dX7_append_33 ?_
      obtain ⟨H33, E33⟩ : ∃ z : td_H, z = hu h 12 (ix (h 11 4)) ((jlshr w1 (8 * x4)).toInt32 &&& 255) := ⟨_, rfl⟩
      have K := K H33 E33
      refine td_eqh E33 ?_
      refine td_aload_n 0 dX7_append_34 rfl ?_
      refine td_dup dX7_append_35 rfl ?_
      refine gf_X7_28 rfl kp_11 dX7_append_36 ?_
      refine td_iconst (v := 1) dX7_append_39 (by decide) ?_
      refine td_iadd dX7_append_40 ?_
      refine pf_X7_28 rfl kp_11 dX7_append_41 ?_
      refine td_iinc 3 (v := x4 + (-1)) (lv2 := [(0, .ref 11), (1, .long w1), (3, .int x3), (4, .int (x4 + (-1)))]) dX7_append_44 rfl (congrArg (x4 + ·) (by decide)) (by decide) rfl ?_
      refine td_goto (tgt := 5) dX7_append_47 (by decide) ?_
      exact K
def apF (L : Nat) (f : Nat → Nat) (w : Int64) (n : Nat) : Nat → Nat := fun j => if j < L then f j else byN w (n - 1 - (j - L))
theorem c_T_append {G : td_G} {d : Nat} {h : td_H} (L : Nat) (f : Nat → Nat) (w : Int64) (x : Int32) (ht : tD L f h) (hx : vp_in x 9) (hn : L + ix x ≤ 80) (hp : allB (plW w) (ix x) = true) : td_C G (d + 1) mX7_append [.ref 11, .long w, .int x] h (fun r h' => r = none ∧ (∀ a b, ¬ ((a = 11 ∧ b = 4) ∨ a = 12) → h' a b = h a b) ∧ tD (L + ix x) (apF L f w (ix x)) h') := by
  obtain ⟨n, hn9, rfl⟩ := vp_in_of hx (by decide)
  have en : ix (nI n) = n := ixn (by omega)
  rw [en] at hn hp ⊢
  have hpl := allB_iff.mp hp
  refine td_entry rfl (Nat.le_of_ble_eq_true rfl) rfl (gX7_append_0 ?_)
  have bytes : ∀ k, k < n → 32 ≤ byN w k ∧ byN w k ≤ 126 := fun k hk => by
    have := hpl k hk
    unfold plW at this
    simpa using this
  have loop : ∀ m (h1 : td_H), m ≤ n → (∀ a b, ¬ ((a = 11 ∧ b = 4) ∨ a = 12) → h1 a b = h a b) → h1 11 4 = nI (L + (n - m)) → (∀ i, i < L + (n - m) → h1 12 i = nI (apF L f w n i)) → td_J G (d + 1) mX7_append (fun r h' => r = none ∧ (∀ a b, ¬ ((a = 11 ∧ b = 4) ∨ a = 12) → h' a b = h a b) ∧ tD (L + n) (apF L f w n) h') 5 [(0, .ref 11), (1, .long w), (3, .int (nI n)), (4, .int (nI m - 1))] [] h1 := by
    intro m
    induction m with
    | zero =>
      intro h1 _ hF h4 hb
      refine gX7_append_5 ⟨fun _ => ⟨rfl, hF, hn, fun i hi => ?_, h4, fun i hi => hb i hi⟩, fun y => absurd (by decide) y⟩
      unfold apF
      by_cases z : i < L
      · rw [if_pos z]; exact ht.2.1 i z
      · rw [if_neg z]; exact bytes _ (by omega)
    | succ m ih =>
      intro h1 hm hF h4 hb
      have e1 : nI (m + 1) - 1 = nI m := pk_sub (a := m + 1) (b := 1) (by omega)
      obtain ⟨e, _⟩ := by_eq w m
      have e' : (jlshr w (8 * nI m)).toInt32 &&& 255 = nI (byN w m) := e
      rw [e1]
      refine gX7_append_5 ?_
      rw [h4, e', ixn (by omega)]
      refine ⟨fun y => absurd y (nI_pos (by omega)), fun _ => ⟨fun y => absurd (le_of (a := 80) y) (by omega), fun _ => ⟨vp_in_nI (by omega) (by decide), fun H33 E33 => ?_⟩⟩⟩
      have g4 : H33 11 4 = nI (L + (n - (m + 1))) := by rw [E33, hu_app, if_neg (by omega)]; exact h4
      rw [g4, nI_1, show nI m + -1 = nI m - 1 from (Int32.sub_eq_add_neg _ _).symm]
      refine ih _ (by omega) (fun a b nn => ?_) ?_ (fun i hi => ?_)
      · rw [hu_app, if_neg (by omega), E33, hu_app, if_neg (by omega)]; exact hF a b nn
      · rw [hu_app, if_pos ⟨rfl, rfl⟩]; congr 1; omega
      · rw [hu_app, if_neg (by omega), E33, hu_app]
        by_cases z : i = L + (n - (m + 1))
        · rw [if_pos ⟨rfl, z⟩, z]
          unfold apF
          rw [if_neg (by omega), show n - 1 - (L + (n - (m + 1)) - L) = m by omega]
        · rw [if_neg (fun y => z y.2)]; exact hb i (by omega)
  refine loop n h (Nat.le_refl n) (fun _ _ _ => rfl) (by rw [Nat.sub_self]; exact ht.2.2.1) (fun i hi => ?_)
  rw [Nat.sub_self, Nat.add_zero] at hi
  rw [ht.2.2.2 i hi]
  unfold apF
  rw [if_pos hi]
