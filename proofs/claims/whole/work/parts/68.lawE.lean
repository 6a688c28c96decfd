/-! ===== item, film ===== -/
def shF (S : Nat → Nat → Int32) (k f n : Nat) (v : Nat → Int32) : Nat → Nat → Int32 := fun a b => if a = k ∧ 2 + f ≤ b ∧ b < 2 + f + n then v (b - (2 + f)) else S a b
theorem shF_0 (S : Nat → Nat → Int32) (k f n : Nat) (v : Nat → Int32) (a b : Nat) (h : b < 2) : shF S k f n v a b = S a b := by unfold shF; rw [if_neg (by omega)]
theorem shF_n (S : Nat → Nat → Int32) (k f n : Nat) (v : Nat → Int32) (a b : Nat) (h : a ≠ k) : shF S k f n v a b = S a b := by unfold shF; rw [if_neg (fun z => h z.1)]
theorem shF_s (S : Nat → Nat → Int32) (k f n : Nat) (v : Nat → Int32) (i : Nat) : shF S k f (n + 1) v k (2 + i) = if i = f + n then v n else shF S k f n v k (2 + i) := by
  unfold shF
  by_cases e : i = f + n
  · subst e
    rw [if_pos ⟨rfl, by omega, by omega⟩, if_pos rfl]
    congr 1; omega
  · rw [if_neg e]
    by_cases z : f ≤ i ∧ i < f + n
    · rw [if_pos ⟨rfl, by omega, by omega⟩, if_pos ⟨rfl, by omega, by omega⟩]
    · rw [if_neg (by omega), if_neg (by omega)]
theorem DI.put {s : gS} {h h1 : td_H} (x : DI s h) {k f n : Nat} {v : Nat → Int32} (hk : k < 4) (e : ∀ a b, a ≠ 77 + 2 * k + 1 → h1 a b = h a b) (ei : ∀ i, i < 16 → h1 (77 + 2 * k + 1) i = shF s.2.2.2 k f n v k (2 + i)) : DI (s.1, s.2.1, s.2.2.1, shF s.2.2.2 k f n v) h1 ∧ FM h h1 := by
  refine x.sh _ (fun j hj => ?_) (fun j hj => ?_) (fun a b z => e a b (by omega))
  · obtain ⟨b1, b2, b3⟩ := x.1.2.2.2.2.1 j hj
    refine ⟨?_, ?_, fun i hi => ?_⟩
    · rw [shF_0 _ _ _ _ _ _ _ (by decide), e _ _ (by omega)]; exact b1
    · rw [shF_0 _ _ _ _ _ _ _ (by decide), e _ _ (by omega)]; exact b2
    · by_cases z : j = k
      · subst z; exact ei i hi
      · rw [shF_n _ _ _ _ _ _ _ z, e _ _ (by omega)]; exact b3 i hi
  · rw [shF_0 _ _ _ _ _ _ _ (by decide), shF_0 _ _ _ _ _ _ _ (by decide)]
    exact x.1.2.2.2.2.2.1 j hj
set_option maxRecDepth 20000 in
set_option maxHeartbeats 4000000 in
theorem gX9_item_0 {G : td_G} {d : Nat} {Post : td_P} {x1 x2 x3 x4 : Int32} {h : td_H} (K : ((b2i (0 ≤ x1 ∧ x1 < 4)) = 0 → (Post (some (.int (-1))) h)) ∧ (¬ (b2i (0 ≤ x1 ∧ x1 < 4)) = 0 → ((¬ (b2i (0 ≤ x2 ∧ x2 < 3)) = 0 → (vp_in x1 4 ∧ (((rfI (h (77 + 2 * ix x1) 1) (h (77 + 2 * ix x1) 2) x2 x3 1) = 0 → (vp_in x1 4 ∧ (shL (77 + 2 * ix x1) h ∧ (Post (some (.int 1)) (if b2i (0 ≤ x3 ∧ x3 < h (77 + 2 * ix x1) 2) = 0 then h else hu h (77 + 2 * ix x1 + 1) (ix x3) (cutI (h (77 + 2 * ix x1) 1) x4) : td_H))))) ∧ (¬ (rfI (h (77 + 2 * ix x1) 1) (h (77 + 2 * ix x1) 2) x2 x3 1) = 0 → (Post (some (.int (rfI (h (77 + 2 * ix x1) 1) (h (77 + 2 * ix x1) 2) x2 x3 1))) h))))) ∧ ((b2i (0 ≤ x2 ∧ x2 < 3)) = 0 → (Post (some (.int (-1))) h))))) : td_J G (d + 2) mX9_item Post 0 [(0, .ref 0), (1, .int x1), (2, .int x2), (3, .int x3), (4, .int x4)] [] h := by
  refine td_iload_n 1 dX9_item_0 rfl ?_
  refine td_iconst (v := 4) dX9_item_1 (by decide) ?_
  refine cl_X9_54 rfl dX9_item_2 (Nat.le_of_ble_eq_true rfl) (c_isIn x1 4) (eR_k ?_)
  refine td_eqs (st2 := [.int (b2i (0 ≤ x1 ∧ x1 < 4))]) rfl ?_
  obtain ⟨Kt, Kf⟩ := K
  refine td_if_eq (tgt := 16) dX9_item_5 (by decide) (fun q5 => ?_) (fun q5 => ?_)
  · have K := Kt q5
    refine td_iconst (v := (-1)) dX9_item_16 (by decide) ?_
    exact td_ireturn rfl dX9_item_17 K
  · have K := Kf q5
    refine td_iload_n 2 dX9_item_8 rfl ?_
    refine td_iconst (v := 3) dX9_item_9 (by decide) ?_
    refine cl_X9_54 rfl dX9_item_10 (Nat.le_of_ble_eq_true rfl) (c_isIn x2 3) (eR_k ?_)
    refine td_eqs (st2 := [.int (b2i (0 ≤ x2 ∧ x2 < 3))]) rfl ?_
    obtain ⟨Kt, Kf⟩ := K
    refine td_if_ne (tgt := 18) dX9_item_13 (by decide) (fun q13 => ?_) (fun q13 => ?_)
    · have K := Kt q13
      refine td_aload_n 0 dX9_item_18 rfl ?_
      refine gf_X9_28 rfl kp_0 dX9_item_19 ?_
      refine td_iload_n 1 dX9_item_22 rfl ?_
      obtain ⟨e23, K⟩ := K
      refine td_aald e23 dX9_item_23 ?_
      refine td_iload_n 2 dX9_item_24 rfl ?_
      refine td_iload_n 3 dX9_item_25 rfl ?_
      refine td_iconst (v := 1) dX9_item_26 (by decide) ?_
      refine cl_X9_248 rfl (kd_sh e23) dX9_item_27 (Nat.le_of_ble_eq_true rfl) (c_S_refusal (kd_sh e23) x2 x3 1) (eR_k ?_)
      refine td_eqs (st2 := [.int (rfI (h (77 + 2 * ix x1) 1) (h (77 + 2 * ix x1) 2) x2 x3 1)]) rfl ?_
      refine td_istore (lv2 := [(0, .ref 0), (1, .int x1), (2, .int x2), (3, .int x3), (4, .int x4), (5, .int (rfI (h (77 + 2 * ix x1) 1) (h (77 + 2 * ix x1) 2) x2 x3 1))]) dX9_item_30 (by decide) rfl ?_
      refine td_iload 5 dX9_item_32 rfl ?_
      obtain ⟨Kt, Kf⟩ := K
      refine td_if_eq (tgt := 40) dX9_item_34 (by decide) (fun q34 => ?_) (fun q34 => ?_)
      · have K := Kt q34
        refine td_aload_n 0 dX9_item_40 rfl ?_
        refine gf_X9_28 rfl kp_0 dX9_item_41 ?_
        refine td_iload_n 1 dX9_item_44 rfl ?_
        obtain ⟨e45, K⟩ := K
        refine td_aald e45 dX9_item_45 ?_
        refine td_iload_n 3 dX9_item_46 rfl ?_
        refine td_iload 4 dX9_item_47 rfl ?_
        obtain ⟨e49_0, K⟩ := K
        refine cl_X9_290 rfl (kd_sh e45) dX9_item_49 (Nat.le_of_ble_eq_true rfl) (c_S_put (kd_sh e45) x3 x4 e49_0) (eV_k ?_)
        refine td_eqs (st2 := []) rfl ?_
        refine td_iconst (v := 1) dX9_item_52 (by decide) ?_
        exact td_ireturn rfl dX9_item_53 K
      · have K := Kf q34
        refine td_iload 5 dX9_item_37 rfl ?_
        exact td_ireturn rfl dX9_item_39 K
    · have K := Kf q13
      refine td_iconst (v := (-1)) dX9_item_16 (by decide) ?_
      exact td_ireturn rfl dX9_item_17 K
def okIt (x1 x2 : Int32) : Prop := (0 ≤ x1 ∧ x1 < 4) ∧ (0 ≤ x2 ∧ x2 < 3)
abbrev rfS (S : Nat → Nat → Int32) (x1 x2 x3 n : Int32) : Int32 := rfI (S (ix x1) 0) (S (ix x1) 1) x2 x3 n
theorem D_item {G : td_G} {d : Nat} {h : td_H} {s : gS} (x1 x2 x3 x4 : Int32) (I : DI s h) : (okIt x1 x2 → rfS s.2.2.2 x1 x2 x3 1 = 0 → td_C G (d + 2) mX9_item [.ref 0, .int x1, .int x2, .int x3, .int x4] h (dPost 1 (s.1, s.2.1, s.2.2.1, shF s.2.2.2 (ix x1) (ix x3) 1 (fun _ => cutI (s.2.2.2 (ix x1) 0) x4)) h)) ∧ (okIt x1 x2 → ¬ rfS s.2.2.2 x1 x2 x3 1 = 0 → td_C G (d + 2) mX9_item [.ref 0, .int x1, .int x2, .int x3, .int x4] h (dPost (rfS s.2.2.2 x1 x2 x3 1) s h)) ∧ (¬ okIt x1 x2 → td_C G (d + 2) mX9_item [.ref 0, .int x1, .int x2, .int x3, .int x4] h (dPost (-1) s h)) := by
  refine ⟨fun ok h0 => ?_, fun ok h0 => ?_, fun nk => ?_⟩
  · obtain ⟨o1, o2⟩ := ok
    obtain ⟨k, hk, rfl⟩ := in_n (n := 4) (by decide) o1
    have ek : ix (nI k) = k := ixn (by omega)
    obtain ⟨q1, q2, q3⟩ := I.1.2.2.2.2.1 k hk
    obtain ⟨-, N, hN, eN⟩ := I.1.2.2.2.2.2.1 k hk
    unfold rfS at h0
    rw [ek] at h0 ⊢
    refine td_entry rfl (Nat.le_of_ble_eq_true rfl) rfl (gX9_item_0 ⟨fun y => absurd o1 (bz y), fun _ => ⟨fun _ => ⟨vp_in_nI hk (by decide), ?_⟩, fun y => absurd o2 (bz y)⟩⟩)
    rw [ek, q1, q2]
    refine ⟨fun _ => ⟨vp_in_nI hk (by decide), ⟨N, hN, by rw [q2, eN]⟩, rfl, ?_⟩, fun y => absurd h0 y⟩
    obtain ⟨f, rfl, hf⟩ := rf_in (n := 1) hN (by decide) (by rw [← eN]; exact h0)
    rw [eN, b2i_ite, if_pos ⟨(nI_leI (a := 0) (by decide) (by omega)).mpr (Nat.zero_le f), nI_lt (by omega) (by omega)⟩, ixn (i := f) (by omega)]
    refine I.put hk (fun a b z => by rw [hu_app, if_neg (fun w => z w.1)]) (fun i hi => ?_)
    rw [shF_s, hu_app]
    by_cases e : i = f
    · rw [if_pos ⟨rfl, e⟩, if_pos (by omega)]
    · rw [if_neg (fun w => e w.2), if_neg (by omega), q3 i hi]
      unfold shF
      rw [if_neg (by omega)]
  · obtain ⟨o1, o2⟩ := ok
    obtain ⟨k, hk, rfl⟩ := in_n (n := 4) (by decide) o1
    have ek : ix (nI k) = k := ixn (by omega)
    obtain ⟨q1, q2, q3⟩ := I.1.2.2.2.2.1 k hk
    unfold rfS at h0 ⊢
    rw [ek] at h0 ⊢
    refine td_entry rfl (Nat.le_of_ble_eq_true rfl) rfl (gX9_item_0 ⟨fun y => absurd o1 (bz y), fun _ => ⟨fun _ => ⟨vp_in_nI hk (by decide), ?_⟩, fun y => absurd o2 (bz y)⟩⟩)
    rw [ek, q1, q2]
    exact ⟨fun y => absurd y h0, fun _ => ⟨rfl, I, FM.rf h⟩⟩
  · exact td_entry rfl (Nat.le_of_ble_eq_true rfl) rfl (gX9_item_0 ⟨fun _ => ⟨rfl, I, FM.rf h⟩, fun y => ⟨fun z => absurd ⟨bnz y, bnz z⟩ nk, fun _ => ⟨rfl, I, FM.rf h⟩⟩⟩)
set_option maxRecDepth 20000 in
set_option maxHeartbeats 4000000 in
theorem gX9_film_0 {G : td_G} {d : Nat} {Post : td_P} {c : nH} {x1 x2 x3 : Int32} {h : td_H} (K : ((b2i (0 ≤ x1 ∧ x1 < 4)) = 0 → (Post (some (.int (-1))) h)) ∧ (¬ (b2i (0 ≤ x1 ∧ x1 < 4)) = 0 → ((¬ (b2i (0 ≤ x2 ∧ x2 < 3)) = 0 → (vp_in x1 4 ∧ (((rfI (h (77 + 2 * ix x1) 1) (h (77 + 2 * ix x1) 2) x2 x3 (h 1 4)) = 0 → (dP c 1 h ∧ 12 ≤ c 5 0 ∧ dKn 18 h ∧ (h 0 8 = 0 ∨ (h 0 8 = 1 ∧ plI c h)) ∧ (∀ h47 : td_H, (FrP h h47 ∧ h47 0 8 = 1 ∧ plI c h47 ∧ dKn 18 h47) → (td_J G (d + 6) mX9_film Post 53 [(0, .ref 0), (1, .int x1), (2, .int x2), (3, .int x3), (4, .int (rfI (h (77 + 2 * ix x1) 1) (h (77 + 2 * ix x1) 2) x2 x3 (h 1 4))), (5, .int 0)] [] h47)))) ∧ (¬ (rfI (h (77 + 2 * ix x1) 1) (h (77 + 2 * ix x1) 2) x2 x3 (h 1 4)) = 0 → (Post (some (.int (rfI (h (77 + 2 * ix x1) 1) (h (77 + 2 * ix x1) 2) x2 x3 (h 1 4)))) h))))) ∧ ((b2i (0 ≤ x2 ∧ x2 < 3)) = 0 → (Post (some (.int (-1))) h))))) : td_J G (d + 6) mX9_film Post 0 [(0, .ref 0), (1, .int x1), (2, .int x2), (3, .int x3)] [] h := by
  refine td_iload_n 1 dX9_film_0 rfl ?_
  refine td_iconst (v := 4) dX9_film_1 (by decide) ?_
  refine cl_X9_54 rfl dX9_film_2 (Nat.le_of_ble_eq_true rfl) (c_isIn x1 4) (eR_k ?_)
  refine td_eqs (st2 := [.int (b2i (0 ≤ x1 ∧ x1 < 4))]) rfl ?_
  obtain ⟨Kt, Kf⟩ := K
  refine td_if_eq (tgt := 16) dX9_film_5 (by decide) (fun q5 => ?_) (fun q5 => ?_)
  · have K := Kt q5
    refine td_iconst (v := (-1)) dX9_film_16 (by decide) ?_
    exact td_ireturn rfl dX9_film_17 K
  · have K := Kf q5
    refine td_iload_n 2 dX9_film_8 rfl ?_
    refine td_iconst (v := 3) dX9_film_9 (by decide) ?_
    refine cl_X9_54 rfl dX9_film_10 (Nat.le_of_ble_eq_true rfl) (c_isIn x2 3) (eR_k ?_)
    refine td_eqs (st2 := [.int (b2i (0 ≤ x2 ∧ x2 < 3))]) rfl ?_
    obtain ⟨Kt, Kf⟩ := K
    refine td_if_ne (tgt := 18) dX9_film_13 (by decide) (fun q13 => ?_) (fun q13 => ?_)
    · have K := Kt q13
      refine td_aload_n 0 dX9_film_18 rfl ?_
      refine gf_X9_28 rfl kp_0 dX9_film_19 ?_
      refine td_iload_n 1 dX9_film_22 rfl ?_
      obtain ⟨e23, K⟩ := K
      refine td_aald e23 dX9_film_23 ?_
      refine td_iload_n 2 dX9_film_24 rfl ?_
      refine td_iload_n 3 dX9_film_25 rfl ?_
      refine td_aload_n 0 dX9_film_26 rfl ?_
      refine gf_X9_12 rfl kp_0 dX9_film_27 ?_
      refine gf_X9_80 rfl kp_1 dX9_film_30 ?_
      refine cl_X9_248 rfl (kd_sh e23) dX9_film_33 (Nat.le_of_ble_eq_true rfl) (c_S_refusal (kd_sh e23) x2 x3 (h 1 4)) (eR_k ?_)
      refine td_eqs (st2 := [.int (rfI (h (77 + 2 * ix x1) 1) (h (77 + 2 * ix x1) 2) x2 x3 (h 1 4))]) rfl ?_
      refine td_istore (lv2 := [(0, .ref 0), (1, .int x1), (2, .int x2), (3, .int x3), (4, .int (rfI (h (77 + 2 * ix x1) 1) (h (77 + 2 * ix x1) 2) x2 x3 (h 1 4)))]) dX9_film_36 (by decide) rfl ?_
      refine td_iload 4 dX9_film_38 rfl ?_
      obtain ⟨Kt, Kf⟩ := K
      refine td_if_eq (tgt := 46) dX9_film_40 (by decide) (fun q40 => ?_) (fun q40 => ?_)
      · have K := Kt q40
        refine td_aload_n 0 dX9_film_46 rfl ?_
        obtain ⟨e47_0, K⟩ := K
        obtain ⟨e47_1, K⟩ := K
        obtain ⟨e47_2, K⟩ := K
        obtain ⟨e47_3, K⟩ := K
        refine cl_X9_129 rfl kp_0 dX9_film_47 (Nat.le_of_ble_eq_true rfl) (c_X_play e47_0 e47_1 e47_2 e47_3) ?_
        rintro _ h47 ⟨rfl, f47⟩
        have K := K h47 f47
        refine td_eqs (st2 := []) rfl ?_
        refine td_iconst (v := 0) dX9_film_50 (by decide) ?_
        refine td_istore (lv2 := [(0, .ref 0), (1, .int x1), (2, .int x2), (3, .int x3), (4, .int (rfI (h (77 + 2 * ix x1) 1) (h (77 + 2 * ix x1) 2) x2 x3 (h 1 4))), (5, .int 0)]) dX9_film_51 (by decide) rfl ?_
        exact K
      · have K := Kf q40
        refine td_iload 4 dX9_film_43 rfl ?_
        exact td_ireturn rfl dX9_film_45 K
    · have K := Kf q13
      refine td_iconst (v := (-1)) dX9_film_16 (by decide) ?_
      exact td_ireturn rfl dX9_film_17 K
set_option maxRecDepth 20000 in
set_option maxHeartbeats 4000000 in
theorem gX9_film_53 {G : td_G} {d : Nat} {Post : td_P} {x1 x2 x3 x4 x5 : Int32} {h : td_H} (K : ((h 1 4) ≤ x5 → (Post (some (.int (h 1 4))) h)) ∧ (¬ (h 1 4) ≤ x5 → (vp_in x1 4 ∧ (vp_in x5 12 ∧ (shL (77 + 2 * ix x1) h ∧ (td_J G (d + 6) mX9_film Post 53 [(0, .ref 0), (1, .int x1), (2, .int x2), (3, .int x3), (4, .int x4), (5, .int (x5 + 1))] [] (if b2i (0 ≤ (x3 + x5) ∧ (x3 + x5) < h (77 + 2 * ix x1) 2) = 0 then h else hu h (77 + 2 * ix x1 + 1) (ix (x3 + x5)) (cutI (h (77 + 2 * ix x1) 1) (h 27 (ix x5))) : td_H))))))) : td_J G (d + 6) mX9_film Post 53 [(0, .ref 0), (1, .int x1), (2, .int x2), (3, .int x3), (4, .int x4), (5, .int x5)] [] h := by
  refine td_iload 5 dX9_film_53 rfl ?_
  refine td_aload_n 0 dX9_film_55 rfl ?_
  refine gf_X9_12 rfl kp_0 dX9_film_56 ?_
  refine gf_X9_80 rfl kp_1 dX9_film_59 ?_
  obtain ⟨Kt, Kf⟩ := K
  refine td_icmp_ge (tgt := 97) dX9_film_62 (by decide) (fun q62 => ?_) (fun q62 => ?_)
  · have K := Kt q62
    refine td_aload_n 0 dX9_film_97 rfl ?_
    refine gf_X9_12 rfl kp_0 dX9_film_98 ?_
    refine gf_X9_80 rfl kp_1 dX9_film_101 ?_
    exact td_ireturn rfl dX9_film_104 K
  · have K := Kf q62
    refine td_aload_n 0 dX9_film_65 rfl ?_
    refine gf_X9_28 rfl kp_0 dX9_film_66 ?_
    refine td_iload_n 1 dX9_film_69 rfl ?_
    obtain ⟨e70, K⟩ := K
    refine td_aald e70 dX9_film_70 ?_
    refine td_iload_n 3 dX9_film_71 rfl ?_
    refine td_iload 5 dX9_film_72 rfl ?_
    refine td_iadd dX9_film_74 ?_
    refine td_aload_n 0 dX9_film_75 rfl ?_
    refine gf_X9_35 rfl kp_0 dX9_film_76 ?_
    refine gf_X9_132 rfl kp_17 dX9_film_79 ?_
    refine gf_X9_141 rfl kp_24 dX9_film_82 ?_
    refine td_iload 5 dX9_film_85 rfl ?_
    obtain ⟨e87, K⟩ := K
    refine td_ialdc (j := (ix x5)) kp_27 (by decide) e87 rfl dX9_film_87 ?_
    obtain ⟨e88_0, K⟩ := K
    refine cl_X9_290 rfl (kd_sh e70) dX9_film_88 (Nat.le_of_ble_eq_true rfl) (c_S_put (kd_sh e70) (x3 + x5) (h 27 (ix x5)) e88_0) (eV_k ?_)
    refine td_eqs (st2 := []) rfl ?_
    refine td_iinc 5 (v := x5 + 1) (lv2 := [(0, .ref 0), (1, .int x1), (2, .int x2), (3, .int x3), (4, .int x4), (5, .int (x5 + 1))]) dX9_film_91 rfl (congrArg (x5 + ·) (by decide)) (by decide) rfl ?_
    refine td_goto (tgt := 53) dX9_film_94 (by decide) ?_
    exact K
theorem D_film {G : td_G} {d : Nat} {h : td_H} {s : gS} (x1 x2 x3 : Int32) (I : DI s h) : (okIt x1 x2 → rfS s.2.2.2 x1 x2 x3 (nI (s.1 1 0)) = 0 → td_C G (d + 6) mX9_film [.ref 0, .int x1, .int x2, .int x3] h (dPost (nI (s.1 1 0)) (s.1, s.2.1, s.2.2.1, shF s.2.2.2 (ix x1) (ix x3) (s.1 1 0) (fun p => cutI (s.2.2.2 (ix x1) 0) (nI (sRun s.1 120 3 p)))) h)) ∧ (okIt x1 x2 → ¬ rfS s.2.2.2 x1 x2 x3 (nI (s.1 1 0)) = 0 → td_C G (d + 6) mX9_film [.ref 0, .int x1, .int x2, .int x3] h (dPost (rfS s.2.2.2 x1 x2 x3 (nI (s.1 1 0))) s h)) ∧ (¬ okIt x1 x2 → td_C G (d + 6) mX9_film [.ref 0, .int x1, .int x2, .int x3] h (dPost (-1) s h)) := by
  have e4 : h 1 4 = nI (s.1 1 0) := I.1.1.2.2.1
  have hn := I.1.1.1.n
  refine ⟨fun ok h0 => ?_, fun ok h0 => ?_, fun nk => ?_⟩
  · obtain ⟨o1, o2⟩ := ok
    obtain ⟨k, hk, rfl⟩ := in_n (n := 4) (by decide) o1
    have ek : ix (nI k) = k := ixn (by omega)
    have vk : vp_in (nI k) 4 := vp_in_nI hk (by decide)
    obtain ⟨q1, q2, q3⟩ := I.1.2.2.2.2.1 k hk
    obtain ⟨-, N, hN, eN⟩ := I.1.2.2.2.2.2.1 k hk
    unfold rfS at h0
    rw [ek] at h0 ⊢
    obtain ⟨f, rfl, hf⟩ := rf_in (n := s.1 1 0) hN (by omega) (by rw [← eN]; exact h0)
    rw [ixn (i := f) (by omega)]
    refine td_entry rfl (Nat.le_of_ble_eq_true rfl) rfl (gX9_film_0 (c := s.1) ⟨fun y => absurd o1 (bz y), fun _ => ⟨fun _ => ⟨vk, ?_⟩, fun y => absurd o2 (bz y)⟩⟩)
    rw [e4, ek, q1, q2]
    refine ⟨fun _ => ⟨I.1.1, I.1.2.1, I.1.2.2.2.2.2.2.1, I.2.1, fun h2 hh => ?_⟩, fun y => absurd h0 y⟩
    obtain ⟨I2, F2⟩ := I.play hh.1 hh.2.1 hh.2.2.1 hh.2.2.2
    have g4 : h2 1 4 = nI (s.1 1 0) := I2.1.1.2.2.1
    obtain ⟨r1, r2, r3⟩ := I2.1.2.2.2.2.1 k hk
    have V := hh.2.2.1.1.2.2.2.2.2
    have f27 : ∀ p, p < 12 → h2 27 p = nI (sRun s.1 120 3 p) := fun p hp => (V.2.2 p hp).2.2.1
    rw [h0]
    refine td_forH (s.1 1 0) (fun p => [(0, .ref 0), (1, .int (nI k)), (2, .int x2), (3, .int (nI f)), (4, .int 0), (5, .int (nI p))]) (fun p h1 => (∀ a b, a ≠ 77 + 2 * k + 1 → h1 a b = h2 a b) ∧ ∀ i, i < 16 → h1 (77 + 2 * k + 1) i = shF s.2.2.2 k f p (fun p => cutI (s.2.2.2 k 0) (nI (sRun s.1 120 3 p))) k (2 + i)) rfl ⟨fun _ _ _ => rfl, fun i hi => ?_⟩ (fun p hp h1 hI ih => ?_) (fun h1 hI => ?_)
    · unfold shF
      rw [if_neg (by omega)]; exact r3 i hi
    · obtain ⟨hF, hV⟩ := hI
      refine gX9_film_53 ?_
      rw [ek, hF 1 4 (by omega), g4, ixn (i := p) (by omega), hF 27 p (by omega), f27 p (by omega), hF (77 + 2 * k) 1 (by omega), hF (77 + 2 * k) 2 (by omega), r1, r2, eN, nI_add]
      refine ⟨fun y => absurd (le_of y) (by omega), fun _ => ⟨vk, vp_in_nI (by omega) (by decide), ⟨N, hN, by rw [hF _ _ (by omega), r2, eN]⟩, ?_⟩⟩
      rw [b2i_ite, if_pos ⟨(nI_leI (a := 0) (by decide) (by omega)).mpr (Nat.zero_le _), nI_lt (by omega) (by omega)⟩, ixn (i := f + p) (by omega)]
      refine td_to (ih _ ⟨fun a b z => ?_, fun i hi => ?_⟩) (by rw [nI_1]) rfl rfl
      · rw [hu_app, if_neg (fun w => z w.1)]; exact hF a b z
      · rw [shF_s, hu_app]
        by_cases e : i = f + p
        · rw [if_pos ⟨rfl, e⟩, if_pos e]
        · rw [if_neg (fun w => e w.2), if_neg e]; exact hV i hi
    · obtain ⟨hF, hV⟩ := hI
      refine gX9_film_53 ?_
      rw [hF 1 4 (by omega), g4]
      refine ⟨fun _ => ?_, fun y => absurd (nle_of y) (by omega)⟩
      obtain ⟨I3, F3⟩ := I2.put hk hF hV
      exact ⟨rfl, I3, fun a b z => (F3 a b z).trans (F2 a b z)⟩
  · obtain ⟨o1, o2⟩ := ok
    obtain ⟨k, hk, rfl⟩ := in_n (n := 4) (by decide) o1
    have ek : ix (nI k) = k := ixn (by omega)
    obtain ⟨q1, q2, q3⟩ := I.1.2.2.2.2.1 k hk
    unfold rfS at h0 ⊢
    rw [ek] at h0 ⊢
    refine td_entry rfl (Nat.le_of_ble_eq_true rfl) rfl (gX9_film_0 (c := s.1) ⟨fun y => absurd o1 (bz y), fun _ => ⟨fun _ => ⟨vp_in_nI hk (by decide), ?_⟩, fun y => absurd o2 (bz y)⟩⟩)
    rw [e4, ek, q1, q2]
    exact ⟨fun y => absurd y h0, fun _ => ⟨rfl, I, FM.rf h⟩⟩
  · exact td_entry rfl (Nat.le_of_ble_eq_true rfl) rfl (gX9_film_0 (c := s.1) ⟨fun _ => ⟨rfl, I, FM.rf h⟩, fun y => ⟨fun z => absurd ⟨bnz y, bnz z⟩ nk, fun _ => ⟨rfl, I, FM.rf h⟩⟩⟩)
