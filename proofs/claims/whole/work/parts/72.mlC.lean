/-! ===== the model: type, people ===== -/
set_option maxRecDepth 20000 in
set_option maxHeartbeats 4000000 in
theorem gX10_nextByte_0 {G : td_G} {d : Nat} {Post : td_P} {h : td_H} (K : ((h 85 5) ≤ (h 85 6) → ((¬ (h 85 5) ≤ (h 85 6) → (vp_in (h 85 6) 80 ∧ True)) ∧ (Post (some (.int (if (h 85 5) ≤ (h 85 6) then (-1) else (h 89 (ix (h 85 6))) : Int32))) h))) ∧ (¬ (h 85 5) ≤ (h 85 6) → (vp_in (h 85 6) 80 ∧ ((¬ (h 89 (ix (h 85 6))) = 32 → (Post (some (.int (if (h 85 5) ≤ (h 85 6) then (-1) else (h 89 (ix (h 85 6))) : Int32))) h)) ∧ ((h 89 (ix (h 85 6))) = 32 → td_J G d mX10_nextByte Post 0 [(0, .ref 85)] [] (hu h 85 6 ((h 85 6) + 1))))))) : td_J G d mX10_nextByte Post 0 [(0, .ref 85)] [] h := by
  refine td_aload_n 0 dX10_nextByte_0 rfl ?_
  refine gf_X10_139 rfl kp_85 dX10_nextByte_1 ?_
  refine td_aload_n 0 dX10_nextByte_4 rfl ?_
  refine gf_X10_136 rfl kp_85 dX10_nextByte_5 ?_
  obtain ⟨Kt, Kf⟩ := K
  refine td_icmp_ge (tgt := 38) dX10_nextByte_8 (by decide) (fun q8 => ?_) (fun q8 => ?_)
  · have K := Kt q8
    refine td_aload_n 0 dX10_nextByte_38 rfl ?_
    refine gf_X10_139 rfl kp_85 dX10_nextByte_39 ?_
    refine td_aload_n 0 dX10_nextByte_42 rfl ?_
    refine gf_X10_136 rfl kp_85 dX10_nextByte_43 ?_
    obtain ⟨Ks46, K⟩ := K
    have KJ62 : td_J G d mX10_nextByte Post 62 [(0, .ref 85)] [.int (if (h 85 5) ≤ (h 85 6) then (-1) else (h 89 (ix (h 85 6))) : Int32)] h := by
      exact td_ireturn rfl dX10_nextByte_62 K
    refine td_icmp_ge (tgt := 61) dX10_nextByte_46 (by decide) (fun q46 => ?_) (fun q46 => ?_)
    · skip
      refine td_iconst (v := (-1)) dX10_nextByte_61 (by decide) ?_
      exact td_to KJ62 rfl (by rw [show (if (h 85 5) ≤ (h 85 6) then (-1) else (h 89 (ix (h 85 6))) : Int32) = _ from if_pos q46]) rfl
    · have K := Ks46 q46
      refine td_aload_n 0 dX10_nextByte_49 rfl ?_
      refine gf_X10_19 rfl kp_85 dX10_nextByte_50 ?_
      refine td_aload_n 0 dX10_nextByte_53 rfl ?_
      refine gf_X10_139 rfl kp_85 dX10_nextByte_54 ?_
      obtain ⟨e57, K⟩ := K
      refine td_ialdc (j := (ix (h 85 6))) kp_89 (by decide) e57 rfl dX10_nextByte_57 ?_
      refine td_goto (tgt := 62) dX10_nextByte_58 (by decide) ?_
      exact td_to KJ62 rfl (by rw [show (if (h 85 5) ≤ (h 85 6) then (-1) else (h 89 (ix (h 85 6))) : Int32) = _ from if_neg q46]) rfl
  · have K := Kf q8
    refine td_aload_n 0 dX10_nextByte_11 rfl ?_
    refine gf_X10_19 rfl kp_85 dX10_nextByte_12 ?_
    refine td_aload_n 0 dX10_nextByte_15 rfl ?_
    refine gf_X10_139 rfl kp_85 dX10_nextByte_16 ?_
    obtain ⟨e19, K⟩ := K
    refine td_ialdc (j := (ix (h 85 6))) kp_89 (by decide) e19 rfl dX10_nextByte_19 ?_
    refine td_bipush (v := 32) dX10_nextByte_20 (by decide) ?_
    obtain ⟨Kt, Kf⟩ := K
    refine td_icmp_ne (tgt := 38) dX10_nextByte_22 (by decide) (fun q22 => ?_) (fun q22 => ?_)
    · have K := Kt q22
      refine td_aload_n 0 dX10_nextByte_38 rfl ?_
      refine gf_X10_139 rfl kp_85 dX10_nextByte_39 ?_
      refine td_aload_n 0 dX10_nextByte_42 rfl ?_
      refine gf_X10_136 rfl kp_85 dX10_nextByte_43 ?_
      have KJ62 : td_J G d mX10_nextByte Post 62 [(0, .ref 85)] [.int (if (h 85 5) ≤ (h 85 6) then (-1) else (h 89 (ix (h 85 6))) : Int32)] h := by
        exact td_ireturn rfl dX10_nextByte_62 K
      refine td_icmp_ge (tgt := 61) dX10_nextByte_46 (by decide) (fun q46 => ?_) (fun q46 => ?_)
      · skip
        refine td_iconst (v := (-1)) dX10_nextByte_61 (by decide) ?_
        exact td_to KJ62 rfl (by rw [show (if (h 85 5) ≤ (h 85 6) then (-1) else (h 89 (ix (h 85 6))) : Int32) = _ from if_pos q46]) rfl
      · skip
        refine td_aload_n 0 dX10_nextByte_49 rfl ?_
        refine gf_X10_19 rfl kp_85 dX10_nextByte_50 ?_
        refine td_aload_n 0 dX10_nextByte_53 rfl ?_
        refine gf_X10_139 rfl kp_85 dX10_nextByte_54 ?_
        refine td_ialdc (j := (ix (h 85 6))) kp_89 (by decide) e19 rfl dX10_nextByte_57 ?_
        refine td_goto (tgt := 62) dX10_nextByte_58 (by decide) ?_
        exact td_to KJ62 rfl (by rw [show (if (h 85 5) ≤ (h 85 6) then (-1) else (h 89 (ix (h 85 6))) : Int32) = _ from if_neg q46]) rfl
    · have K := Kf q22
      refine td_aload_n 0 dX10_nextByte_25 rfl ?_
      refine td_dup dX10_nextByte_26 rfl ?_
      refine gf_X10_139 rfl kp_85 dX10_nextByte_27 ?_
      refine td_iconst (v := 1) dX10_nextByte_30 (by decide) ?_
      refine td_iadd dX10_nextByte_31 ?_
      refine pf_X10_139 rfl kp_85 dX10_nextByte_32 ?_
      refine td_goto (tgt := 0) dX10_nextByte_35 (by decide) ?_
      exact K
/-- the tape, and that its bytes are plain -/
def tN (L : Nat) (f : Nat → Nat) (h : td_H) : Prop := (L ≤ 80 ∧ ∀ i, i < L → 32 ≤ f i ∧ f i ≤ 126) ∧ tM L f h
theorem tN.fr {L : Nat} {f : Nat → Nat} {h h' : td_H} (x : tN L f h) (e : ∀ a b, (a = 85 ∧ b = 5) ∨ a = 89 → h' a b = h a b) : tN L f h' := ⟨x.1, x.2.fr (e _ _ (by omega)) (fun b => e _ _ (by omega))⟩
theorem c_next {G : td_G} {d : Nat} {h : td_H} (L : Nat) (f : Nat → Nat) (i : Nat) (ht : tN L f h) (hp : h 85 6 = nI i) (hi : i ≤ L) : td_C G d mX10_nextByte [.ref 85] h (eR (bhI L f (sk L f i)) (hu h 85 6 (nI (sk L f i)))) := by
  refine td_entry rfl (Nat.le_of_ble_eq_true rfl) rfl ?_
  obtain ⟨⟨hL, hf⟩, h4, hb⟩ := ht
  have go : ∀ n j, L - j = n → j ≤ L → sk L f j = sk L f i → td_J G d mX10_nextByte (eR (bhI L f (sk L f i)) (hu h 85 6 (nI (sk L f i)))) 0 [(0, .ref 85)] [] (hu h 85 6 (nI j)) := by
    intro n
    have e4 : ∀ j, (hu h 85 6 (nI j)) 85 5 = nI L := fun j => by rw [hu_app, if_neg (by omega)]; exact h4
    have e6 : ∀ j, (hu h 85 6 (nI j)) 85 6 = nI j := fun j => by rw [hu_app, if_pos ⟨rfl, rfl⟩]
    have eb : ∀ j k, k < L → (hu h 85 6 (nI j)) 89 k = nI (f k) := fun j k hk => by rw [hu_app, if_neg (by omega)]; exact hb k hk
    induction n with
    | zero =>
      intro j h1 h2 h3
      refine gX10_nextByte_0 ?_
      rw [e4, e6]
      have ej : sk L f i = j := by rw [← h3, sk_f (by omega)]
      refine ⟨fun y => ⟨fun z => absurd y z, ?_⟩, fun y => absurd (nle_of y) (by omega)⟩
      rw [if_pos y, ej]
      unfold bhI
      rw [if_pos (by omega)]
      exact ⟨rfl, rfl⟩
    | succ n ih =>
      intro j h1 h2 h3
      have hj : j < L := by omega
      refine gX10_nextByte_0 ?_
      rw [e4, e6, ixn (i := j) (by omega), eb j j hj, hu_hu, nI_1]
      have fb := hf j hj
      refine ⟨fun y => absurd (le_of y) (by omega), fun z => ⟨vp_in_nI (by omega) (by decide), fun y => ?_, fun y => ?_⟩⟩
      · have y2 : ¬ f j = 32 := fun z => y (by rw [z]; rfl)
        have ej : sk L f i = j := by rw [← h3, sk_f (fun z => y2 z.2)]
        rw [if_neg z, ej]
        unfold bhI
        rw [if_neg (by omega)]
        exact ⟨rfl, rfl⟩
      · have y2 : f j = 32 := eq_of (b := 32) y
        exact ih (j + 1) (by omega) (by omega) (by rw [← sk_t hj y2]; exact h3)
  refine td_to (go (L - i) i rfl hi rfl) rfl rfl (hu_pl hp)
set_option maxRecDepth 20000 in
set_option maxHeartbeats 4000000 in
theorem gX10_readTick_0 {G : td_G} {d : Nat} {Post : td_P} {L i : Nat} {f : Nat → Nat} {h : td_H} (K : tN L f h ∧ h 85 6 = nI i ∧ i ≤ L ∧ (td_J G (d + 1) mX10_readTick Post 12 [(0, .ref 85), (1, .int ((hu h 85 6 (nI (sk L f i))) 85 6)), (2, .int 0)] [] (hu h 85 6 (nI (sk L f i))))) : td_J G (d + 1) mX10_readTick Post 0 [(0, .ref 85)] [] h := by
  refine td_aload_n 0 dX10_readTick_0 rfl ?_
  obtain ⟨e1_0, K⟩ := K
  obtain ⟨e1_1, K⟩ := K
  obtain ⟨e1_2, K⟩ := K
  refine cl_X10_142 rfl kp_85 dX10_readTick_1 (Nat.le_of_ble_eq_true rfl) (c_next L f i e1_0 e1_1 e1_2) (eR_k ?_)
  refine td_eqs (st2 := [.int (bhI L f (sk L f i))]) rfl ?_
  refine td_pop dX10_readTick_4 rfl ?_
  refine td_aload_n 0 dX10_readTick_5 rfl ?_
  refine gf_X10_139 rfl kp_85 dX10_readTick_6 ?_
  refine td_istore_n (lv2 := [(0, .ref 85), (1, .int ((hu h 85 6 (nI (sk L f i))) 85 6))]) dX10_readTick_9 (by decide) rfl ?_
  refine td_iconst (v := 0) dX10_readTick_10 (by decide) ?_
  refine td_istore_n (lv2 := [(0, .ref 85), (1, .int ((hu h 85 6 (nI (sk L f i))) 85 6)), (2, .int 0)]) dX10_readTick_11 (by decide) rfl ?_
  exact K
set_option maxRecDepth 20000 in
set_option maxHeartbeats 4000000 in
theorem gX10_readTick_12 {G : td_G} {d : Nat} {Post : td_P} {x1 x2 : Int32} {h : td_H} (K : ((h 85 5) ≤ (h 85 6) → ((¬ (h 85 6) = x1 → ((x2 < 120 → (Post (some (.int x2)) h)) ∧ (¬ x2 < 120 → (Post (some (.int (-1))) (hu h 85 6 x1))))) ∧ ((h 85 6) = x1 → (Post (some (.int (-1))) h)))) ∧ (¬ (h 85 5) ≤ (h 85 6) → (vp_in (h 85 6) 80 ∧ (((b2i (48 ≤ ((h 89 (ix (h 85 6))).toInt64) ∧ ((h 89 (ix (h 85 6))).toInt64) ≤ 57)) = 0 → ((¬ (h 85 6) = x1 → ((x2 < 120 → (Post (some (.int x2)) h)) ∧ (¬ x2 < 120 → (Post (some (.int (-1))) (hu h 85 6 x1))))) ∧ ((h 85 6) = x1 → (Post (some (.int (-1))) h)))) ∧ (¬ (b2i (48 ≤ ((h 89 (ix (h 85 6))).toInt64) ∧ ((h 89 (ix (h 85 6))).toInt64) ≤ 57)) = 0 → td_J G (d + 1) mX10_readTick Post 12 [(0, .ref 85), (1, .int x1), (2, .int (if x2 ≤ 999 then (((10 * x2) + (h 89 (ix (h 85 6)))) - 48) else x2 : Int32))] [] (hu h 85 6 ((h 85 6) + 1))))))) : td_J G (d + 1) mX10_readTick Post 12 [(0, .ref 85), (1, .int x1), (2, .int x2)] [] h := by
  refine td_aload_n 0 dX10_readTick_12 rfl ?_
  refine gf_X10_139 rfl kp_85 dX10_readTick_13 ?_
  refine td_aload_n 0 dX10_readTick_16 rfl ?_
  refine gf_X10_136 rfl kp_85 dX10_readTick_17 ?_
  obtain ⟨Kt, Kf⟩ := K
  refine td_icmp_ge (tgt := 87) dX10_readTick_20 (by decide) (fun q20 => ?_) (fun q20 => ?_)
  · have K := Kt q20
    refine td_aload_n 0 dX10_readTick_87 rfl ?_
    refine gf_X10_139 rfl kp_85 dX10_readTick_88 ?_
    refine td_iload_n 1 dX10_readTick_91 rfl ?_
    obtain ⟨Kt, Kf⟩ := K
    refine td_icmp_ne (tgt := 97) dX10_readTick_92 (by decide) (fun q92 => ?_) (fun q92 => ?_)
    · have K := Kt q92
      refine td_iload_n 2 dX10_readTick_97 rfl ?_
      refine td_bipush (v := 120) dX10_readTick_98 (by decide) ?_
      obtain ⟨Kt, Kf⟩ := K
      refine td_icmp_lt (tgt := 110) dX10_readTick_100 (by decide) (fun q100 => ?_) (fun q100 => ?_)
      · have K := Kt q100
        refine td_iload_n 2 dX10_readTick_110 rfl ?_
        exact td_ireturn rfl dX10_readTick_111 K
      · have K := Kf q100
        refine td_aload_n 0 dX10_readTick_103 rfl ?_
        refine td_iload_n 1 dX10_readTick_104 rfl ?_
        refine pf_X10_139 rfl kp_85 dX10_readTick_105 ?_
        refine td_iconst (v := (-1)) dX10_readTick_108 (by decide) ?_
        exact td_ireturn rfl dX10_readTick_109 K
    · have K := Kf q92
      refine td_iconst (v := (-1)) dX10_readTick_95 (by decide) ?_
      exact td_ireturn rfl dX10_readTick_96 K
  · have K := Kf q20
    refine td_aload_n 0 dX10_readTick_23 rfl ?_
    refine gf_X10_19 rfl kp_85 dX10_readTick_24 ?_
    refine td_aload_n 0 dX10_readTick_27 rfl ?_
    refine gf_X10_139 rfl kp_85 dX10_readTick_28 ?_
    obtain ⟨e31, K⟩ := K
    refine td_ialdc (j := (ix (h 85 6))) kp_89 (by decide) e31 rfl dX10_readTick_31 ?_
    refine td_i2l dX10_readTick_32 ?_
    refine td_ldc2 (v := 48) kw_X10_146 dX10_readTick_33 ?_
    refine td_ldc2 (v := 57) kw_X10_148 dX10_readTick_36 ?_
    refine cl_X10_75 rfl dX10_readTick_39 (Nat.le_of_ble_eq_true rfl) (c_in ((h 89 (ix (h 85 6))).toInt64) 48 57) (eR_k ?_)
    refine td_eqs (st2 := [.int (b2i (48 ≤ ((h 89 (ix (h 85 6))).toInt64) ∧ ((h 89 (ix (h 85 6))).toInt64) ≤ 57))]) rfl ?_
    obtain ⟨Kt, Kf⟩ := K
    refine td_if_eq (tgt := 87) dX10_readTick_42 (by decide) (fun q42 => ?_) (fun q42 => ?_)
    · have K := Kt q42
      refine td_aload_n 0 dX10_readTick_87 rfl ?_
      refine gf_X10_139 rfl kp_85 dX10_readTick_88 ?_
      refine td_iload_n 1 dX10_readTick_91 rfl ?_
      obtain ⟨Kt, Kf⟩ := K
      refine td_icmp_ne (tgt := 97) dX10_readTick_92 (by decide) (fun q92 => ?_) (fun q92 => ?_)
      · have K := Kt q92
        refine td_iload_n 2 dX10_readTick_97 rfl ?_
        refine td_bipush (v := 120) dX10_readTick_98 (by decide) ?_
        obtain ⟨Kt, Kf⟩ := K
        refine td_icmp_lt (tgt := 110) dX10_readTick_100 (by decide) (fun q100 => ?_) (fun q100 => ?_)
        · have K := Kt q100
          refine td_iload_n 2 dX10_readTick_110 rfl ?_
          exact td_ireturn rfl dX10_readTick_111 K
        · have K := Kf q100
          refine td_aload_n 0 dX10_readTick_103 rfl ?_
          refine td_iload_n 1 dX10_readTick_104 rfl ?_
          refine pf_X10_139 rfl kp_85 dX10_readTick_105 ?_
          refine td_iconst (v := (-1)) dX10_readTick_108 (by decide) ?_
          exact td_ireturn rfl dX10_readTick_109 K
      · have K := Kf q92
        refine td_iconst (v := (-1)) dX10_readTick_95 (by decide) ?_
        exact td_ireturn rfl dX10_readTick_96 K
    · have K := Kf q42
      refine td_iload_n 2 dX10_readTick_45 rfl ?_
      refine td_sipush (v := 999) dX10_readTick_46 (by decide) ?_
      have KJ73 : td_J G (d + 1) mX10_readTick Post 73 [(0, .ref 85), (1, .int x1), (2, .int x2)] [.int (if x2 ≤ 999 then (((10 * x2) + (h 89 (ix (h 85 6)))) - 48) else x2 : Int32)] h := by
        refine td_istore_n (lv2 := [(0, .ref 85), (1, .int x1), (2, .int (if x2 ≤ 999 then (((10 * x2) + (h 89 (ix (h 85 6)))) - 48) else x2 : Int32))]) dX10_readTick_73 (by decide) rfl ?_
        refine td_aload_n 0 dX10_readTick_74 rfl ?_
        refine td_dup dX10_readTick_75 rfl ?_
        refine gf_X10_139 rfl kp_85 dX10_readTick_76 ?_
        refine td_iconst (v := 1) dX10_readTick_79 (by decide) ?_
        refine td_iadd dX10_readTick_80 ?_
        refine pf_X10_139 rfl kp_85 dX10_readTick_81 ?_
        refine td_goto (tgt := 12) dX10_readTick_84 (by decide) ?_
        exact K
      refine td_icmp_le (tgt := 56) dX10_readTick_49 (by decide) (fun q49 => ?_) (fun q49 => ?_)
      · skip
        refine td_bipush (v := 10) dX10_readTick_56 (by decide) ?_
        refine td_iload_n 2 dX10_readTick_58 rfl ?_
        refine td_imul dX10_readTick_59 ?_
        refine td_aload_n 0 dX10_readTick_60 rfl ?_
        refine gf_X10_19 rfl kp_85 dX10_readTick_61 ?_
        refine td_aload_n 0 dX10_readTick_64 rfl ?_
        refine gf_X10_139 rfl kp_85 dX10_readTick_65 ?_
        refine td_ialdc (j := (ix (h 85 6))) kp_89 (by decide) e31 rfl dX10_readTick_68 ?_
        refine td_iadd dX10_readTick_69 ?_
        refine td_bipush (v := 48) dX10_readTick_70 (by decide) ?_
        refine td_isub dX10_readTick_72 ?_
        exact td_to KJ73 rfl (by rw [show (if x2 ≤ 999 then (((10 * x2) + (h 89 (ix (h 85 6)))) - 48) else x2 : Int32) = _ from if_pos q49]) rfl
      · skip
        refine td_iload_n 2 dX10_readTick_52 rfl ?_
        refine td_goto (tgt := 73) dX10_readTick_53 (by decide) ?_
        exact td_to KJ73 rfl (by rw [show (if x2 ≤ 999 then (((10 * x2) + (h 89 (ix (h 85 6)))) - 48) else x2 : Int32) = _ from if_neg q49]) rfl
theorem dig_in {b : Nat} (hb : b < 200) : ((48 : Int64) ≤ (nI b).toInt64 ∧ (nI b).toInt64 ≤ 57) ↔ (48 ≤ b ∧ b ≤ 57) := by
  rw [fa_le64, fa_le64, Int32.toInt_toInt64, nI_toInt (by omega), show (48 : Int64).toInt = 48 by decide, show (57 : Int64).toInt = 57 by decide]
  omega
theorem c_mtick {G : td_G} {d : Nat} {h : td_H} (L : Nat) (f : Nat → Nat) (i : Nat) (ht : tN L f h) (hp : h 85 6 = nI i) (hi : i ≤ L) : td_C G (d + 1) mX10_readTick [.ref 85] h (eR (if rtV L f i < 120 then nI (rtV L f i) else -1) (hu h 85 6 (nI (rtP L f i)))) := by
  refine td_entry rfl (Nat.le_of_ble_eq_true rfl) rfl (gX10_readTick_0 (L := L) (f := f) (i := i) ⟨ht, hp, hi, ?_⟩)
  have hj := (sk_le (f := f) (L - i) i rfl hi).2
  have hrp : rtP L f i = if rtV L f i < 120 then (dg L f (sk L f i) 0).1 else sk L f i := rfl
  have hrv : rtV L f i = if (dg L f (sk L f i) 0).1 = sk L f i then 120 else (dg L f (sk L f i) 0).2 := rfl
  rw [hrp, hrv]
  obtain ⟨⟨hL, hf⟩, h4, hb⟩ := ht
  generalize sk L f i = j at hj
  have e4 : ∀ p, (hu h 85 6 (nI p)) 85 5 = nI L := fun j => by rw [hu_app, if_neg (by omega)]; exact h4
  have e6 : ∀ p, (hu h 85 6 (nI p)) 85 6 = nI p := fun j => by rw [hu_app, if_pos ⟨rfl, rfl⟩]
  have eb : ∀ p k, k < L → (hu h 85 6 (nI p)) 89 k = nI (f k) := fun j k hk => by rw [hu_app, if_neg (by omega)]; exact hb k hk
  rw [e6]
  generalize hD : dg L f j 0 = D
  generalize hPost : (eR (if (if D.1 = j then 120 else D.2) < 120 then nI (if D.1 = j then 120 else D.2) else -1) (hu h 85 6 (nI (if (if D.1 = j then 120 else D.2) < 120 then D.1 else j)))) = Pq
  have exit : ∀ p v, j ≤ p → p ≤ L → v ≤ 10000 → D = (p, min 120 v) → ((¬ nI p = nI j → ((nI v < 120 → Pq (some (.int (nI v))) (hu h 85 6 (nI p))) ∧ (¬ nI v < 120 → Pq (some (.int (-1))) (hu (hu h 85 6 (nI p)) 85 6 (nI j))))) ∧ (nI p = nI j → Pq (some (.int (-1))) (hu h 85 6 (nI p)))) := by
    intro p v h1 h2 h3 he
    rw [← hPost, he]
    refine ⟨fun y => ⟨fun z => ?_, fun z => ?_⟩, fun y => ?_⟩
    · have y2 : ¬ p = j := fun w => y (by rw [w])
      have z2 : v < 120 := lt_of (b := 120) z
      show some (Value.int (nI v)) = some (.int (if (if p = j then 120 else min 120 v) < 120 then nI (if p = j then 120 else min 120 v) else -1)) ∧ hu h 85 6 (nI p) = hu h 85 6 (nI (if (if p = j then 120 else min 120 v) < 120 then p else j))
      rw [if_neg y2, Nat.min_eq_right (by omega), if_pos z2, if_pos z2]
      exact ⟨rfl, rfl⟩
    · have y2 : ¬ p = j := fun w => y (by rw [w])
      have z2 : 120 ≤ v := nlt_of (b := 120) z
      show some (Value.int (-1)) = some (.int (if (if p = j then 120 else min 120 v) < 120 then nI (if p = j then 120 else min 120 v) else -1)) ∧ hu (hu h 85 6 (nI p)) 85 6 (nI j) = hu h 85 6 (nI (if (if p = j then 120 else min 120 v) < 120 then p else j))
      rw [if_neg y2, Nat.min_eq_left z2, if_neg (by decide), if_neg (by decide), hu_hu]
      exact ⟨rfl, rfl⟩
    · have y2 : p = j := eq_of y
      show some (Value.int (-1)) = some (.int (if (if p = j then 120 else min 120 v) < 120 then nI (if p = j then 120 else min 120 v) else -1)) ∧ hu h 85 6 (nI p) = hu h 85 6 (nI (if (if p = j then 120 else min 120 v) < 120 then p else j))
      rw [if_pos y2, if_neg (by decide), if_neg (by decide), y2]
      exact ⟨rfl, rfl⟩
  have go : ∀ n p v, L - p = n → j ≤ p → p ≤ L → v ≤ 10000 → dg L f p (min 120 v) = D → td_J G (d + 1) mX10_readTick Pq 12 [(0, .ref 85), (1, .int (nI j)), (2, .int (nI v))] [] (hu h 85 6 (nI p)) := by
    intro n
    induction n with
    | zero =>
      intro p v h1 h2 h3 h5 he
      have ex := exit p v h2 h3 h5 (by rw [← he, dg_f (fun z => by have := z.1; omega)])
      refine gX10_readTick_12 ?_
      rw [e4, e6]
      exact ⟨fun _ => ex, fun y => absurd (nle_of y) (by omega)⟩
    | succ n ih =>
      intro p v h1 h2 h3 h5 he
      have hpL : p < L := by omega
      have fb := hf p hpL
      refine gX10_readTick_12 ?_
      rw [e4, e6, ixn (i := p) (by omega), eb p p hpL]
      refine ⟨fun y => absurd (le_of y) (by omega), fun _ => ⟨vp_in_nI (by omega) (by decide), fun y => ?_, fun y => ?_⟩⟩
      · have y2 : ¬ (48 ≤ f p ∧ f p ≤ 57) := fun z => bz y ((dig_in (by omega)).mpr z)
        exact exit p v h2 h3 h5 (by rw [← he, dg_f (fun w => y2 w.2)])
      · have y2 : 48 ≤ f p ∧ f p ≤ 57 := (dig_in (by omega)).mp (bnz y)
        have eV : (if nI v ≤ 999 then ((10 * nI v + nI (f p)) - 48) else nI v : Int32) = nI (if v ≤ 999 then v * 10 + (f p - 48) else v) := by
          rw [show (10 : Int32) = nI 10 from rfl, pk_mul, nI_add, show (48 : Int32) = nI 48 from rfl, pk_sub (by omega), show 10 * v + f p - 48 = v * 10 + (f p - 48) by omega]
          rw [ite_c (p := nI v ≤ 999) (q := v ≤ 999) (nI_leI (b := 999) (by omega) (by decide)) _ _, nI_ite]
        rw [eV, hu_hu, nI_1]
        refine ih (p + 1) _ (by omega) (by omega) (by omega) (by split <;> omega) ?_
        rw [← he, dg_t ⟨hpL, y2⟩]
        congr 1
        split <;> omega
  exact go (L - j) j 0 rfl (Nat.le_refl _) hj (by omega) hD
set_option maxRecDepth 20000 in
set_option maxHeartbeats 4000000 in
theorem gX10_readPerson_0 {G : td_G} {d : Nat} {Post : td_P} {L ia iσ iσ22 : Nat} {f : Nat → Nat} {x1 : Int32} {h : td_H} (K : tN L f h ∧ h 85 6 = nI ia ∧ ia ≤ L ∧ (vp_in x1 24 ∧ (∀ H9 : td_H, H9 = hu (hu h 85 6 (nI (rtP L f ia))) 90 (ix x1) (if rtV L f ia < 120 then nI (rtV L f ia) else -1 : Int32) → ((0 ≤ (H9 90 (ix x1)) → (tN L f H9 ∧ H9 85 6 = nI iσ ∧ iσ ≤ L ∧ (((bhI L f (sk L f iσ)) = 115 → (∀ H47 : td_H, H47 = hu (hu H9 85 6 (nI (sk L f iσ))) 85 6 (((hu H9 85 6 (nI (sk L f iσ))) 85 6) + 1) → (vp_in (x1 + 1) 24 ∧ (∀ H68 : td_H, H68 = hu H47 90 (ix (x1 + 1)) (if (bhI L f (sk L f iσ)) = 115 then 0 else 1 : Int32) → (tN L f H68 ∧ H68 85 6 = nI iσ22 ∧ iσ22 ≤ L ∧ (vp_in (x1 + 2) 24 ∧ (∀ H142 : td_H, H142 = hu (hu H68 85 6 (nI (sk L f iσ22))) 90 (ix (x1 + 2)) (if (bhI L f (sk L f iσ22)) = 119 then 0 else if (bhI L f (sk L f iσ22)) = 98 then 1 else if (bhI L f (sk L f iσ22)) = 116 then 2 else if (bhI L f (sk L f iσ22)) = 99 then 3 else if (bhI L f (sk L f iσ22)) = 104 then 4 else if (bhI L f (sk L f iσ22)) = 100 then 5 else (-1) : Int32) → ((0 ≤ (H142 90 (ix (x1 + 2))) → (Post (some (.int 1)) (hu H142 85 6 ((H142 85 6) + 1)))) ∧ (¬ 0 ≤ (H142 90 (ix (x1 + 2))) → (Post (some (.int 0)) H142)))))))))) ∧ (¬ (bhI L f (sk L f iσ)) = 115 → (((bhI L f (sk L f iσ)) = 104 → (∀ H47 : td_H, H47 = hu (hu H9 85 6 (nI (sk L f iσ))) 85 6 (((hu H9 85 6 (nI (sk L f iσ))) 85 6) + 1) → (vp_in (x1 + 1) 24 ∧ (∀ H68 : td_H, H68 = hu H47 90 (ix (x1 + 1)) (if (bhI L f (sk L f iσ)) = 115 then 0 else 1 : Int32) → (tN L f H68 ∧ H68 85 6 = nI iσ22 ∧ iσ22 ≤ L ∧ (vp_in (x1 + 2) 24 ∧ (∀ H142 : td_H, H142 = hu (hu H68 85 6 (nI (sk L f iσ22))) 90 (ix (x1 + 2)) (if (bhI L f (sk L f iσ22)) = 119 then 0 else if (bhI L f (sk L f iσ22)) = 98 then 1 else if (bhI L f (sk L f iσ22)) = 116 then 2 else if (bhI L f (sk L f iσ22)) = 99 then 3 else if (bhI L f (sk L f iσ22)) = 104 then 4 else if (bhI L f (sk L f iσ22)) = 100 then 5 else (-1) : Int32) → ((0 ≤ (H142 90 (ix (x1 + 2))) → (Post (some (.int 1)) (hu H142 85 6 ((H142 85 6) + 1)))) ∧ (¬ 0 ≤ (H142 90 (ix (x1 + 2))) → (Post (some (.int 0)) H142)))))))))) ∧ (¬ (bhI L f (sk L f iσ)) = 104 → (Post (some (.int 0)) (hu H9 85 6 (nI (sk L f iσ)))))))))) ∧ (¬ 0 ≤ (H9 90 (ix x1)) → (Post (some (.int 0)) H9)))))) : td_J G (d + 2) mX10_readPerson Post 0 [(0, .ref 85), (1, .int x1)] [] h := by
  refine td_aload_n 0 dX10_readPerson_0 rfl ?_
  refine gf_X10_22 rfl kp_85 dX10_readPerson_1 ?_
  refine td_iload_n 1 dX10_readPerson_4 rfl ?_
  refine td_aload_n 0 dX10_readPerson_5 rfl ?_
  obtain ⟨e6_0, K⟩ := K
  obtain ⟨e6_1, K⟩ := K
  obtain ⟨e6_2, K⟩ := K
  refine cl_X10_150 rfl kp_85 dX10_readPerson_6 (Nat.le_of_ble_eq_true rfl) (c_mtick L f ia e6_0 e6_1 e6_2) (eR_k ?_)
  refine td_eqs (st2 := [.int (if rtV L f ia < 120 then nI (rtV L f ia) else -1 : Int32), .int x1, .ref 90]) rfl ?_
  obtain ⟨e9, K⟩ := K
  refine td_iastc (j := (ix x1)) kp_90 (by decide) e9 rfl dX10_readPerson_9 ?_
  obtain ⟨H9, E9⟩ : ∃ z : td_H, z = hu (hu h 85 6 (nI (rtP L f ia))) 90 (ix x1) (if rtV L f ia < 120 then nI (rtV L f ia) else -1 : Int32) := ⟨_, rfl⟩
  have K := K H9 E9
  refine td_eqh E9 ?_
  refine td_aload_n 0 dX10_readPerson_10 rfl ?_
  refine gf_X10_22 rfl kp_85 dX10_readPerson_11 ?_
  refine td_iload_n 1 dX10_readPerson_14 rfl ?_
  refine td_ialdc (j := (ix x1)) kp_90 (by decide) e9 rfl dX10_readPerson_15 ?_
  obtain ⟨Kt, Kf⟩ := K
  refine td_if_ge (tgt := 21) dX10_readPerson_16 (by decide) (fun q16 => ?_) (fun q16 => ?_)
  · have K := Kt q16
    refine td_aload_n 0 dX10_readPerson_21 rfl ?_
    obtain ⟨e22_0, K⟩ := K
    obtain ⟨e22_1, K⟩ := K
    obtain ⟨e22_2, K⟩ := K
    refine cl_X10_142 rfl kp_85 dX10_readPerson_22 (Nat.le_of_ble_eq_true rfl) (c_next L f iσ e22_0 e22_1 e22_2) (eR_k ?_)
    refine td_eqs (st2 := [.int (bhI L f (sk L f iσ))]) rfl ?_
    refine td_istore_n (lv2 := [(0, .ref 85), (1, .int x1), (2, .int (bhI L f (sk L f iσ)))]) dX10_readPerson_25 (by decide) rfl ?_
    refine td_iload_n 2 dX10_readPerson_26 rfl ?_
    refine td_bipush (v := 115) dX10_readPerson_27 (by decide) ?_
    obtain ⟨Kt, Kf⟩ := K
    refine td_icmp_eq (tgt := 40) dX10_readPerson_29 (by decide) (fun q29 => ?_) (fun q29 => ?_)
    · have K := Kt q29
      refine td_aload_n 0 dX10_readPerson_40 rfl ?_
      refine td_dup dX10_readPerson_41 rfl ?_
      refine gf_X10_139 rfl kp_85 dX10_readPerson_42 ?_
      refine td_iconst (v := 1) dX10_readPerson_45 (by decide) ?_
      refine td_iadd dX10_readPerson_46 ?_
      refine pf_X10_139 rfl kp_85 dX10_readPerson_47 ?_
      obtain ⟨H47, E47⟩ : ∃ z : td_H, z = hu (hu H9 85 6 (nI (sk L f iσ))) 85 6 (((hu H9 85 6 (nI (sk L f iσ))) 85 6) + 1) := ⟨_, rfl⟩
      have K := K H47 E47
      refine td_eqh E47 ?_
      refine td_aload_n 0 dX10_readPerson_50 rfl ?_
      refine gf_X10_22 rfl kp_85 dX10_readPerson_51 ?_
      refine td_iload_n 1 dX10_readPerson_54 rfl ?_
      refine td_iconst (v := 1) dX10_readPerson_55 (by decide) ?_
      refine td_iadd dX10_readPerson_56 ?_
      refine td_iload_n 2 dX10_readPerson_57 rfl ?_
      refine td_bipush (v := 115) dX10_readPerson_58 (by decide) ?_
      have KJ68 : td_J G (d + 2) mX10_readPerson Post 68 [(0, .ref 85), (1, .int x1), (2, .int (bhI L f (sk L f iσ)))] [.int (if (bhI L f (sk L f iσ)) = 115 then 0 else 1 : Int32), .int (x1 + 1), .ref 90] H47 := by
        obtain ⟨e68, K⟩ := K
        refine td_iastc (j := (ix (x1 + 1))) kp_90 (by decide) e68 rfl dX10_readPerson_68 ?_
        obtain ⟨H68, E68⟩ : ∃ z : td_H, z = hu H47 90 (ix (x1 + 1)) (if (bhI L f (sk L f iσ)) = 115 then 0 else 1 : Int32) := ⟨_, rfl⟩
        have K := K H68 E68
        refine td_eqh E68 ?_
        refine td_aload_n 0 dX10_readPerson_69 rfl ?_
        obtain ⟨e70_0, K⟩ := K
        obtain ⟨e70_1, K⟩ := K
        obtain ⟨e70_2, K⟩ := K
        refine cl_X10_142 rfl kp_85 dX10_readPerson_70 (Nat.le_of_ble_eq_true rfl) (c_next L f iσ22 e70_0 e70_1 e70_2) (eR_k ?_)
        refine td_eqs (st2 := [.int (bhI L f (sk L f iσ22))]) rfl ?_
        refine td_istore_n (lv2 := [(0, .ref 85), (1, .int x1), (2, .int (bhI L f (sk L f iσ))), (3, .int (bhI L f (sk L f iσ22)))]) dX10_readPerson_73 (by decide) rfl ?_
        refine td_aload_n 0 dX10_readPerson_74 rfl ?_
        refine gf_X10_22 rfl kp_85 dX10_readPerson_75 ?_
        refine td_iload_n 1 dX10_readPerson_78 rfl ?_
        refine td_iconst (v := 2) dX10_readPerson_79 (by decide) ?_
        refine td_iadd dX10_readPerson_80 ?_
        refine td_iload_n 3 dX10_readPerson_81 rfl ?_
        refine td_bipush (v := 119) dX10_readPerson_82 (by decide) ?_
        have KJ142 : td_J G (d + 2) mX10_readPerson Post 142 [(0, .ref 85), (1, .int x1), (2, .int (bhI L f (sk L f iσ))), (3, .int (bhI L f (sk L f iσ22)))] [.int (if (bhI L f (sk L f iσ22)) = 119 then 0 else if (bhI L f (sk L f iσ22)) = 98 then 1 else if (bhI L f (sk L f iσ22)) = 116 then 2 else if (bhI L f (sk L f iσ22)) = 99 then 3 else if (bhI L f (sk L f iσ22)) = 104 then 4 else if (bhI L f (sk L f iσ22)) = 100 then 5 else (-1) : Int32), .int (x1 + 2), .ref 90] (hu H68 85 6 (nI (sk L f iσ22))) := by
          obtain ⟨e142, K⟩ := K
          refine td_iastc (j := (ix (x1 + 2))) kp_90 (by decide) e142 rfl dX10_readPerson_142 ?_
          obtain ⟨H142, E142⟩ : ∃ z : td_H, z = hu (hu H68 85 6 (nI (sk L f iσ22))) 90 (ix (x1 + 2)) (if (bhI L f (sk L f iσ22)) = 119 then 0 else if (bhI L f (sk L f iσ22)) = 98 then 1 else if (bhI L f (sk L f iσ22)) = 116 then 2 else if (bhI L f (sk L f iσ22)) = 99 then 3 else if (bhI L f (sk L f iσ22)) = 104 then 4 else if (bhI L f (sk L f iσ22)) = 100 then 5 else (-1) : Int32) := ⟨_, rfl⟩
          have K := K H142 E142
          refine td_eqh E142 ?_
          refine td_aload_n 0 dX10_readPerson_143 rfl ?_
          refine gf_X10_22 rfl kp_85 dX10_readPerson_144 ?_
          refine td_iload_n 1 dX10_readPerson_147 rfl ?_
          refine td_iconst (v := 2) dX10_readPerson_148 (by decide) ?_
          refine td_iadd dX10_readPerson_149 ?_
          refine td_ialdc (j := (ix (x1 + 2))) kp_90 (by decide) e142 rfl dX10_readPerson_150 ?_
          obtain ⟨Kt, Kf⟩ := K
          refine td_if_ge (tgt := 156) dX10_readPerson_151 (by decide) (fun q151 => ?_) (fun q151 => ?_)
          · have K := Kt q151
            refine td_aload_n 0 dX10_readPerson_156 rfl ?_
            refine td_dup dX10_readPerson_157 rfl ?_
            refine gf_X10_139 rfl kp_85 dX10_readPerson_158 ?_
            refine td_iconst (v := 1) dX10_readPerson_161 (by decide) ?_
            refine td_iadd dX10_readPerson_162 ?_
            refine pf_X10_139 rfl kp_85 dX10_readPerson_163 ?_
            refine td_iconst (v := 1) dX10_readPerson_166 (by decide) ?_
            exact td_zreturn rfl rfl dX10_readPerson_167 K
          · have K := Kf q151
            refine td_iconst (v := 0) dX10_readPerson_154 (by decide) ?_
            exact td_zreturn rfl rfl dX10_readPerson_155 K
        refine td_icmp_ne (tgt := 91) dX10_readPerson_84 (by decide) (fun q84 => ?_) (fun q84 => ?_)
        · skip
          refine td_iload_n 3 dX10_readPerson_91 rfl ?_
          refine td_bipush (v := 98) dX10_readPerson_92 (by decide) ?_
          refine td_icmp_ne (tgt := 101) dX10_readPerson_94 (by decide) (fun q94 => ?_) (fun q94 => ?_)
          · skip
            refine td_iload_n 3 dX10_readPerson_101 rfl ?_
            refine td_bipush (v := 116) dX10_readPerson_102 (by decide) ?_
            refine td_icmp_ne (tgt := 111) dX10_readPerson_104 (by decide) (fun q104 => ?_) (fun q104 => ?_)
            · skip
              refine td_iload_n 3 dX10_readPerson_111 rfl ?_
              refine td_bipush (v := 99) dX10_readPerson_112 (by decide) ?_
              refine td_icmp_ne (tgt := 121) dX10_readPerson_114 (by decide) (fun q114 => ?_) (fun q114 => ?_)
              · skip
                refine td_iload_n 3 dX10_readPerson_121 rfl ?_
                refine td_bipush (v := 104) dX10_readPerson_122 (by decide) ?_
                refine td_icmp_ne (tgt := 131) dX10_readPerson_124 (by decide) (fun q124 => ?_) (fun q124 => ?_)
                · skip
                  refine td_iload_n 3 dX10_readPerson_131 rfl ?_
                  refine td_bipush (v := 100) dX10_readPerson_132 (by decide) ?_
                  refine td_icmp_ne (tgt := 141) dX10_readPerson_134 (by decide) (fun q134 => ?_) (fun q134 => ?_)
                  · skip
                    refine td_iconst (v := (-1)) dX10_readPerson_141 (by decide) ?_
                    exact td_to KJ142 rfl (by rw [show (if (bhI L f (sk L f iσ22)) = 119 then 0 else if (bhI L f (sk L f iσ22)) = 98 then 1 else if (bhI L f (sk L f iσ22)) = 116 then 2 else if (bhI L f (sk L f iσ22)) = 99 then 3 else if (bhI L f (sk L f iσ22)) = 104 then 4 else if (bhI L f (sk L f iσ22)) = 100 then 5 else (-1) : Int32) = _ from (if_neg q84).trans ((if_neg q94).trans ((if_neg q104).trans ((if_neg q114).trans ((if_neg q124).trans (if_neg q134)))))]) rfl
                  · skip
                    refine td_iconst (v := 5) dX10_readPerson_137 (by decide) ?_
                    refine td_goto (tgt := 142) dX10_readPerson_138 (by decide) ?_
                    exact td_to KJ142 rfl (by rw [show (if (bhI L f (sk L f iσ22)) = 119 then 0 else if (bhI L f (sk L f iσ22)) = 98 then 1 else if (bhI L f (sk L f iσ22)) = 116 then 2 else if (bhI L f (sk L f iσ22)) = 99 then 3 else if (bhI L f (sk L f iσ22)) = 104 then 4 else if (bhI L f (sk L f iσ22)) = 100 then 5 else (-1) : Int32) = _ from (if_neg q84).trans ((if_neg q94).trans ((if_neg q104).trans ((if_neg q114).trans ((if_neg q124).trans (if_pos q134)))))]) rfl
                · skip
                  refine td_iconst (v := 4) dX10_readPerson_127 (by decide) ?_
                  refine td_goto (tgt := 142) dX10_readPerson_128 (by decide) ?_
                  exact td_to KJ142 rfl (by rw [show (if (bhI L f (sk L f iσ22)) = 119 then 0 else if (bhI L f (sk L f iσ22)) = 98 then 1 else if (bhI L f (sk L f iσ22)) = 116 then 2 else if (bhI L f (sk L f iσ22)) = 99 then 3 else if (bhI L f (sk L f iσ22)) = 104 then 4 else if (bhI L f (sk L f iσ22)) = 100 then 5 else (-1) : Int32) = _ from (if_neg q84).trans ((if_neg q94).trans ((if_neg q104).trans ((if_neg q114).trans (if_pos q124))))]) rfl
              · skip
                refine td_iconst (v := 3) dX10_readPerson_117 (by decide) ?_
                refine td_goto (tgt := 142) dX10_readPerson_118 (by decide) ?_
                exact td_to KJ142 rfl (by rw [show (if (bhI L f (sk L f iσ22)) = 119 then 0 else if (bhI L f (sk L f iσ22)) = 98 then 1 else if (bhI L f (sk L f iσ22)) = 116 then 2 else if (bhI L f (sk L f iσ22)) = 99 then 3 else if (bhI L f (sk L f iσ22)) = 104 then 4 else if (bhI L f (sk L f iσ22)) = 100 then 5 else (-1) : Int32) = _ from (if_neg q84).trans ((if_neg q94).trans ((if_neg q104).trans (if_pos q114)))]) rfl
            · skip
              refine td_iconst (v := 2) dX10_readPerson_107 (by decide) ?_
              refine td_goto (tgt := 142) dX10_readPerson_108 (by decide) ?_
              exact td_to KJ142 rfl (by rw [show (if (bhI L f (sk L f iσ22)) = 119 then 0 else if (bhI L f (sk L f iσ22)) = 98 then 1 else if (bhI L f (sk L f iσ22)) = 116 then 2 else if (bhI L f (sk L f iσ22)) = 99 then 3 else if (bhI L f (sk L f iσ22)) = 104 then 4 else if (bhI L f (sk L f iσ22)) = 100 then 5 else (-1) : Int32) = _ from (if_neg q84).trans ((if_neg q94).trans (if_pos q104))]) rfl
          · skip
            refine td_iconst (v := 1) dX10_readPerson_97 (by decide) ?_
            refine td_goto (tgt := 142) dX10_readPerson_98 (by decide) ?_
            exact td_to KJ142 rfl (by rw [show (if (bhI L f (sk L f iσ22)) = 119 then 0 else if (bhI L f (sk L f iσ22)) = 98 then 1 else if (bhI L f (sk L f iσ22)) = 116 then 2 else if (bhI L f (sk L f iσ22)) = 99 then 3 else if (bhI L f (sk L f iσ22)) = 104 then 4 else if (bhI L f (sk L f iσ22)) = 100 then 5 else (-1) : Int32) = _ from (if_neg q84).trans (if_pos q94)]) rfl
        · skip
          refine td_iconst (v := 0) dX10_readPerson_87 (by decide) ?_
          refine td_goto (tgt := 142) dX10_readPerson_88 (by decide) ?_
          exact td_to KJ142 rfl (by rw [show (if (bhI L f (sk L f iσ22)) = 119 then 0 else if (bhI L f (sk L f iσ22)) = 98 then 1 else if (bhI L f (sk L f iσ22)) = 116 then 2 else if (bhI L f (sk L f iσ22)) = 99 then 3 else if (bhI L f (sk L f iσ22)) = 104 then 4 else if (bhI L f (sk L f iσ22)) = 100 then 5 else (-1) : Int32) = _ from if_pos q84]) rfl
      refine td_icmp_ne (tgt := 67) dX10_readPerson_60 (by decide) (fun q60 => ?_) (fun q60 => ?_)
      · skip
        refine td_iconst (v := 1) dX10_readPerson_67 (by decide) ?_
        exact td_to KJ68 rfl (by rw [show (if (bhI L f (sk L f iσ)) = 115 then 0 else 1 : Int32) = _ from if_neg q60]) rfl
      · skip
        refine td_iconst (v := 0) dX10_readPerson_63 (by decide) ?_
        refine td_goto (tgt := 68) dX10_readPerson_64 (by decide) ?_
        exact td_to KJ68 rfl (by rw [show (if (bhI L f (sk L f iσ)) = 115 then 0 else 1 : Int32) = _ from if_pos q60]) rfl
    · have K := Kf q29
      refine td_iload_n 2 dX10_readPerson_32 rfl ?_
      refine td_bipush (v := 104) dX10_readPerson_33 (by decide) ?_
      obtain ⟨Kt, Kf⟩ := K
      refine td_icmp_eq (tgt := 40) dX10_readPerson_35 (by decide) (fun q35 => ?_) (fun q35 => ?_)
      · have K := Kt q35
        refine td_aload_n 0 dX10_readPerson_40 rfl ?_
        refine td_dup dX10_readPerson_41 rfl ?_
        refine gf_X10_139 rfl kp_85 dX10_readPerson_42 ?_
        refine td_iconst (v := 1) dX10_readPerson_45 (by decide) ?_
        refine td_iadd dX10_readPerson_46 ?_
        refine pf_X10_139 rfl kp_85 dX10_readPerson_47 ?_
        obtain ⟨H47, E47⟩ : ∃ z : td_H, z = hu (hu H9 85 6 (nI (sk L f iσ))) 85 6 (((hu H9 85 6 (nI (sk L f iσ))) 85 6) + 1) := ⟨_, rfl⟩
        have K := K H47 E47
        refine td_eqh E47 ?_
        refine td_aload_n 0 dX10_readPerson_50 rfl ?_
        refine gf_X10_22 rfl kp_85 dX10_readPerson_51 ?_
        refine td_iload_n 1 dX10_readPerson_54 rfl ?_
        refine td_iconst (v := 1) dX10_readPerson_55 (by decide) ?_
        refine td_iadd dX10_readPerson_56 ?_
        refine td_iload_n 2 dX10_readPerson_57 rfl ?_
        refine td_bipush (v := 115) dX10_readPerson_58 (by decide) ?_
        have KJ68 : td_J G (d + 2) mX10_readPerson Post 68 [(0, .ref 85), (1, .int x1), (2, .int (bhI L f (sk L f iσ)))] [.int (if (bhI L f (sk L f iσ)) = 115 then 0 else 1 : Int32), .int (x1 + 1), .ref 90] H47 := by
          obtain ⟨e68, K⟩ := K
          refine td_iastc (j := (ix (x1 + 1))) kp_90 (by decide) e68 rfl dX10_readPerson_68 ?_
          obtain ⟨H68, E68⟩ : ∃ z : td_H, z = hu H47 90 (ix (x1 + 1)) (if (bhI L f (sk L f iσ)) = 115 then 0 else 1 : Int32) := ⟨_, rfl⟩
          have K := K H68 E68
          refine td_eqh E68 ?_
          refine td_aload_n 0 dX10_readPerson_69 rfl ?_
          obtain ⟨e70_0, K⟩ := K
          obtain ⟨e70_1, K⟩ := K
          obtain ⟨e70_2, K⟩ := K
          refine cl_X10_142 rfl kp_85 dX10_readPerson_70 (Nat.le_of_ble_eq_true rfl) (c_next L f iσ22 e70_0 e70_1 e70_2) (eR_k ?_)
          refine td_eqs (st2 := [.int (bhI L f (sk L f iσ22))]) rfl ?_
          refine td_istore_n (lv2 := [(0, .ref 85), (1, .int x1), (2, .int (bhI L f (sk L f iσ))), (3, .int (bhI L f (sk L f iσ22)))]) dX10_readPerson_73 (by decide) rfl ?_
          refine td_aload_n 0 dX10_readPerson_74 rfl ?_
          refine gf_X10_22 rfl kp_85 dX10_readPerson_75 ?_
          refine td_iload_n 1 dX10_readPerson_78 rfl ?_
          refine td_iconst (v := 2) dX10_readPerson_79 (by decide) ?_
          refine td_iadd dX10_readPerson_80 ?_
          refine td_iload_n 3 dX10_readPerson_81 rfl ?_
          refine td_bipush (v := 119) dX10_readPerson_82 (by decide) ?_
          have KJ142 : td_J G (d + 2) mX10_readPerson Post 142 [(0, .ref 85), (1, .int x1), (2, .int (bhI L f (sk L f iσ))), (3, .int (bhI L f (sk L f iσ22)))] [.int (if (bhI L f (sk L f iσ22)) = 119 then 0 else if (bhI L f (sk L f iσ22)) = 98 then 1 else if (bhI L f (sk L f iσ22)) = 116 then 2 else if (bhI L f (sk L f iσ22)) = 99 then 3 else if (bhI L f (sk L f iσ22)) = 104 then 4 else if (bhI L f (sk L f iσ22)) = 100 then 5 else (-1) : Int32), .int (x1 + 2), .ref 90] (hu H68 85 6 (nI (sk L f iσ22))) := by
            obtain ⟨e142, K⟩ := K
            refine td_iastc (j := (ix (x1 + 2))) kp_90 (by decide) e142 rfl dX10_readPerson_142 ?_
            obtain ⟨H142, E142⟩ : ∃ z : td_H, z = hu (hu H68 85 6 (nI (sk L f iσ22))) 90 (ix (x1 + 2)) (if (bhI L f (sk L f iσ22)) = 119 then 0 else if (bhI L f (sk L f iσ22)) = 98 then 1 else if (bhI L f (sk L f iσ22)) = 116 then 2 else if (bhI L f (sk L f iσ22)) = 99 then 3 else if (bhI L f (sk L f iσ22)) = 104 then 4 else if (bhI L f (sk L f iσ22)) = 100 then 5 else (-1) : Int32) := ⟨_, rfl⟩
            have K := K H142 E142
            refine td_eqh E142 ?_
            refine td_aload_n 0 dX10_readPerson_143 rfl ?_
            refine gf_X10_22 rfl kp_85 dX10_readPerson_144 ?_
            refine td_iload_n 1 dX10_readPerson_147 rfl ?_
            refine td_iconst (v := 2) dX10_readPerson_148 (by decide) ?_
            refine td_iadd dX10_readPerson_149 ?_
            refine td_ialdc (j := (ix (x1 + 2))) kp_90 (by decide) e142 rfl dX10_readPerson_150 ?_
            obtain ⟨Kt, Kf⟩ := K
            refine td_if_ge (tgt := 156) dX10_readPerson_151 (by decide) (fun q151 => ?_) (fun q151 => ?_)
            · have K := Kt q151
              refine td_aload_n 0 dX10_readPerson_156 rfl ?_
              refine td_dup dX10_readPerson_157 rfl ?_
              refine gf_X10_139 rfl kp_85 dX10_readPerson_158 ?_
              refine td_iconst (v := 1) dX10_readPerson_161 (by decide) ?_
              refine td_iadd dX10_readPerson_162 ?_
              refine pf_X10_139 rfl kp_85 dX10_readPerson_163 ?_
              refine td_iconst (v := 1) dX10_readPerson_166 (by decide) ?_
              exact td_zreturn rfl rfl dX10_readPerson_167 K
            · have K := Kf q151
              refine td_iconst (v := 0) dX10_readPerson_154 (by decide) ?_
              exact td_zreturn rfl rfl dX10_readPerson_155 K
          refine td_icmp_ne (tgt := 91) dX10_readPerson_84 (by decide) (fun q84 => ?_) (fun q84 => ?_)
          · skip
            refine td_iload_n 3 dX10_readPerson_91 rfl ?_
            refine td_bipush (v := 98) dX10_readPerson_92 (by decide) ?_
            refine td_icmp_ne (tgt := 101) dX10_readPerson_94 (by decide) (fun q94 => ?_) (fun q94 => ?_)
            · skip
              refine td_iload_n 3 dX10_readPerson_101 rfl ?_
              refine td_bipush (v := 116) dX10_readPerson_102 (by decide) ?_
              refine td_icmp_ne (tgt := 111) dX10_readPerson_104 (by decide) (fun q104 => ?_) (fun q104 => ?_)
              · skip
                refine td_iload_n 3 dX10_readPerson_111 rfl ?_
                refine td_bipush (v := 99) dX10_readPerson_112 (by decide) ?_
                refine td_icmp_ne (tgt := 121) dX10_readPerson_114 (by decide) (fun q114 => ?_) (fun q114 => ?_)
                · skip
                  refine td_iload_n 3 dX10_readPerson_121 rfl ?_
                  refine td_bipush (v := 104) dX10_readPerson_122 (by decide) ?_
                  refine td_icmp_ne (tgt := 131) dX10_readPerson_124 (by decide) (fun q124 => ?_) (fun q124 => ?_)
                  · skip
                    refine td_iload_n 3 dX10_readPerson_131 rfl ?_
                    refine td_bipush (v := 100) dX10_readPerson_132 (by decide) ?_
                    refine td_icmp_ne (tgt := 141) dX10_readPerson_134 (by decide) (fun q134 => ?_) (fun q134 => ?_)
                    · skip
                      refine td_iconst (v := (-1)) dX10_readPerson_141 (by decide) ?_
                      exact td_to KJ142 rfl (by rw [show (if (bhI L f (sk L f iσ22)) = 119 then 0 else if (bhI L f (sk L f iσ22)) = 98 then 1 else if (bhI L f (sk L f iσ22)) = 116 then 2 else if (bhI L f (sk L f iσ22)) = 99 then 3 else if (bhI L f (sk L f iσ22)) = 104 then 4 else if (bhI L f (sk L f iσ22)) = 100 then 5 else (-1) : Int32) = _ from (if_neg q84).trans ((if_neg q94).trans ((if_neg q104).trans ((if_neg q114).trans ((if_neg q124).trans (if_neg q134)))))]) rfl
                    · skip
                      refine td_iconst (v := 5) dX10_readPerson_137 (by decide) ?_
                      refine td_goto (tgt := 142) dX10_readPerson_138 (by decide) ?_
                      exact td_to KJ142 rfl (by rw [show (if (bhI L f (sk L f iσ22)) = 119 then 0 else if (bhI L f (sk L f iσ22)) = 98 then 1 else if (bhI L f (sk L f iσ22)) = 116 then 2 else if (bhI L f (sk L f iσ22)) = 99 then 3 else if (bhI L f (sk L f iσ22)) = 104 then 4 else if (bhI L f (sk L f iσ22)) = 100 then 5 else (-1) : Int32) = _ from (if_neg q84).trans ((if_neg q94).trans ((if_neg q104).trans ((if_neg q114).trans ((if_neg q124).trans (if_pos q134)))))]) rfl
                  · skip
                    refine td_iconst (v := 4) dX10_readPerson_127 (by decide) ?_
                    refine td_goto (tgt := 142) dX10_readPerson_128 (by decide) ?_
                    exact td_to KJ142 rfl (by rw [show (if (bhI L f (sk L f iσ22)) = 119 then 0 else if (bhI L f (sk L f iσ22)) = 98 then 1 else if (bhI L f (sk L f iσ22)) = 116 then 2 else if (bhI L f (sk L f iσ22)) = 99 then 3 else if (bhI L f (sk L f iσ22)) = 104 then 4 else if (bhI L f (sk L f iσ22)) = 100 then 5 else (-1) : Int32) = _ from (if_neg q84).trans ((if_neg q94).trans ((if_neg q104).trans ((if_neg q114).trans (if_pos q124))))]) rfl
                · skip
                  refine td_iconst (v := 3) dX10_readPerson_117 (by decide) ?_
                  refine td_goto (tgt := 142) dX10_readPerson_118 (by decide) ?_
                  exact td_to KJ142 rfl (by rw [show (if (bhI L f (sk L f iσ22)) = 119 then 0 else if (bhI L f (sk L f iσ22)) = 98 then 1 else if (bhI L f (sk L f iσ22)) = 116 then 2 else if (bhI L f (sk L f iσ22)) = 99 then 3 else if (bhI L f (sk L f iσ22)) = 104 then 4 else if (bhI L f (sk L f iσ22)) = 100 then 5 else (-1) : Int32) = _ from (if_neg q84).trans ((if_neg q94).trans ((if_neg q104).trans (if_pos q114)))]) rfl
              · skip
                refine td_iconst (v := 2) dX10_readPerson_107 (by decide) ?_
                refine td_goto (tgt := 142) dX10_readPerson_108 (by decide) ?_
                exact td_to KJ142 rfl (by rw [show (if (bhI L f (sk L f iσ22)) = 119 then 0 else if (bhI L f (sk L f iσ22)) = 98 then 1 else if (bhI L f (sk L f iσ22)) = 116 then 2 else if (bhI L f (sk L f iσ22)) = 99 then 3 else if (bhI L f (sk L f iσ22)) = 104 then 4 else if (bhI L f (sk L f iσ22)) = 100 then 5 else (-1) : Int32) = _ from (if_neg q84).trans ((if_neg q94).trans (if_pos q104))]) rfl
            · skip
              refine td_iconst (v := 1) dX10_readPerson_97 (by decide) ?_
              refine td_goto (tgt := 142) dX10_readPerson_98 (by decide) ?_
              exact td_to KJ142 rfl (by rw [show (if (bhI L f (sk L f iσ22)) = 119 then 0 else if (bhI L f (sk L f iσ22)) = 98 then 1 else if (bhI L f (sk L f iσ22)) = 116 then 2 else if (bhI L f (sk L f iσ22)) = 99 then 3 else if (bhI L f (sk L f iσ22)) = 104 then 4 else if (bhI L f (sk L f iσ22)) = 100 then 5 else (-1) : Int32) = _ from (if_neg q84).trans (if_pos q94)]) rfl
          · skip
            refine td_iconst (v := 0) dX10_readPerson_87 (by decide) ?_
            refine td_goto (tgt := 142) dX10_readPerson_88 (by decide) ?_
            exact td_to KJ142 rfl (by rw [show (if (bhI L f (sk L f iσ22)) = 119 then 0 else if (bhI L f (sk L f iσ22)) = 98 then 1 else if (bhI L f (sk L f iσ22)) = 116 then 2 else if (bhI L f (sk L f iσ22)) = 99 then 3 else if (bhI L f (sk L f iσ22)) = 104 then 4 else if (bhI L f (sk L f iσ22)) = 100 then 5 else (-1) : Int32) = _ from if_pos q84]) rfl
        refine td_icmp_ne (tgt := 67) dX10_readPerson_60 (by decide) (fun q60 => ?_) (fun q60 => ?_)
        · skip
          refine td_iconst (v := 1) dX10_readPerson_67 (by decide) ?_
          exact td_to KJ68 rfl (by rw [show (if (bhI L f (sk L f iσ)) = 115 then 0 else 1 : Int32) = _ from if_neg q60]) rfl
        · skip
          refine td_iconst (v := 0) dX10_readPerson_63 (by decide) ?_
          refine td_goto (tgt := 68) dX10_readPerson_64 (by decide) ?_
          exact td_to KJ68 rfl (by rw [show (if (bhI L f (sk L f iσ)) = 115 then 0 else 1 : Int32) = _ from if_pos q60]) rfl
      · have K := Kf q35
        refine td_iconst (v := 0) dX10_readPerson_38 (by decide) ?_
        exact td_zreturn rfl rfl dX10_readPerson_39 K
  · have K := Kf q16
    refine td_iconst (v := 0) dX10_readPerson_19 (by decide) ?_
    exact td_zreturn rfl rfl dX10_readPerson_20 K
theorem kd_bh {L : Nat} {f : Nat → Nat} {j : Nat} (hf : ∀ i, i < L → 32 ≤ f i ∧ f i ≤ 126) : (if bhI L f j = 119 then 0 else if bhI L f j = 98 then 1 else if bhI L f j = 116 then 2 else if bhI L f j = 99 then 3 else if bhI L f j = 104 then 4 else if bhI L f j = 100 then 5 else (-1) : Int32) = if (if j < L then kdN (f j) else 6) < 6 then nI (if j < L then kdN (f j) else 6) else -1 := by
  by_cases y : j < L
  · have fb := hf j y
    have e : bhI L f j = nI (f j) := by unfold bhI; rw [if_neg (by omega)]
    rw [e, if_pos y]
    exact (by decide +kernel : ∀ b, b < 128 → (if nI b = 119 then 0 else if nI b = 98 then 1 else if nI b = 116 then 2 else if nI b = 99 then 3 else if nI b = 104 then 4 else if nI b = 100 then 5 else (-1) : Int32) = if kdN b < 6 then nI (kdN b) else -1) (f j) (by omega)
  · have e : bhI L f j = -1 := by unfold bhI; rw [if_pos (by omega)]
    rw [e, if_neg y]
    decide
def pFr (k : Nat) (h h' : td_H) : Prop := ∀ a b, ¬ ((a = 85 ∧ b = 6) ∨ (a = 90 ∧ 3 * k ≤ b ∧ b < 3 * k + 3)) → h' a b = h a b
def pV (L : Nat) (f : Nat → Nat) (i k : Nat) (h : td_H) : Prop := h 90 (3 * k) = nI (rtV L f i) ∧ h 90 (3 * k + 1) = nI (rsV L f (rtP L f i)) ∧ h 90 (3 * k + 2) = nI (rkV L f (rsP L f (rtP L f i)))
theorem c_mpers {G : td_G} {d : Nat} {h : td_H} (L : Nat) (f : Nat → Nat) (i k : Nat) (x1 : Int32) (hx : x1 = nI (3 * k)) (hk : k < 8) (ht : tN L f h) (hp : h 85 6 = nI i) (hi : i ≤ L) : td_C G (d + 2) mX10_readPerson [.ref 85, .int x1] h (fun r h' => r = some (.int (b2i (rpO L f i = true))) ∧ pFr k h h' ∧ h' 85 6 = nI (rpP L f i) ∧ (rpO L f i = true → pV L f i k h')) := by
  subst hx
  have hf := ht.1.2
  have hj1 := rtP_le (f := f) hi
  have hj2 := rsP_le (f := f) hj1
  have x1e : nI (3 * k) + 1 = nI (3 * k + 1) := nI_1 _
  have x2e : nI (3 * k) + 2 = nI (3 * k + 2) := by rw [show (2 : Int32) = nI 2 from rfl, nI_add]
  have tF : ∀ h2 : td_H, pFr k h h2 → tN L f h2 := fun h2 q => ht.fr (fun a b z => q a b (by omega))
  refine td_entry rfl (Nat.le_of_ble_eq_true rfl) rfl (gX10_readPerson_0 (L := L) (f := f) (ia := i) (iσ := rtP L f i) (iσ22 := rsP L f (rtP L f i)) ⟨ht, hp, hi, vp_in_nI (by omega) (by decide), fun H9 E9 => ?_⟩)
  rw [ixn (i := 3 * k) (by omega)] at E9 ⊢
  have F9 : pFr k h H9 := fun a b n => by rw [E9, hu_app, if_neg (by omega), hu_app, if_neg (by omega)]
  have f9 : H9 85 6 = nI (rtP L f i) := by rw [E9, hu_app, if_neg (by omega), hu_app, if_pos ⟨rfl, rfl⟩]
  have v9 : H9 90 (3 * k) = (if rtV L f i < 120 then nI (rtV L f i) else -1 : Int32) := by rw [E9, hu_app, if_pos ⟨rfl, rfl⟩]
  rw [v9]
  by_cases yT : rtV L f i < 120
  · rw [if_pos yT]
    refine ⟨fun _ => ⟨tF H9 F9, f9, hj1, fun y => ?_, fun y => ⟨fun z => ?_, fun z => ?_⟩⟩, fun y => absurd ((nI_leI (a := 0) (by decide) (by omega)).mpr (Nat.zero_le _)) y⟩
    · have y2 := (bh_115 hf (b := 115) (by decide)).mp y
      have rs : rsV L f (rtP L f i) = 0 := by unfold rsV; rw [if_pos y2.1, if_pos y2.2]
      have rsl : rsV L f (rtP L f i) < 2 := by omega
      have hrsp : sk L f (rtP L f i) + 1 = rsP L f (rtP L f i) := by unfold rsP; rw [if_pos rsl]
      have sd : (if bhI L f (sk L f (rtP L f i)) = 115 then 0 else 1 : Int32) = nI (rsV L f (rtP L f i)) := by rw [if_pos y, rs]; rfl
      intro H47 E47
      have e47 : H47 = hu H9 85 6 (nI (rsP L f (rtP L f i))) := by rw [E47, hu_app, if_pos ⟨rfl, rfl⟩, nI_1, hu_hu, hrsp]
      refine ⟨by rw [x1e]; exact vp_in_nI (by omega) (by decide), fun H68 E68 => ?_⟩
      rw [x1e, ixn (i := 3 * k + 1) (by omega), e47, sd] at E68
      have F68 : pFr k h H68 := fun a b n => by rw [E68, hu_app, if_neg (by omega), hu_app, if_neg (by omega)]; exact F9 a b n
      have f68 : H68 85 6 = nI (rsP L f (rtP L f i)) := by rw [E68, hu_app, if_neg (by omega), hu_app, if_pos ⟨rfl, rfl⟩]
      refine ⟨tF H68 F68, f68, hj2, by rw [x2e]; exact vp_in_nI (by omega) (by decide), fun H142 E142 => ?_⟩
      rw [x2e, ixn (i := 3 * k + 2) (by omega), kd_bh hf] at E142
      change H142 = hu (hu H68 85 6 (nI (sk L f (rsP L f (rtP L f i))))) 90 (3 * k + 2) (if rkV L f (rsP L f (rtP L f i)) < 6 then nI (rkV L f (rsP L f (rtP L f i))) else -1) at E142
      have F142 : pFr k h H142 := fun a b n => by rw [E142, hu_app, if_neg (by omega), hu_app, if_neg (by omega)]; exact F68 a b n
      have v142 : H142 90 (3 * k + 2) = (if rkV L f (rsP L f (rtP L f i)) < 6 then nI (rkV L f (rsP L f (rtP L f i))) else -1) := by rw [E142, hu_app, if_pos ⟨rfl, rfl⟩]
      have f142 : H142 85 6 = nI (sk L f (rsP L f (rtP L f i))) := by rw [E142, hu_app, if_neg (by omega), hu_app, if_pos ⟨rfl, rfl⟩]
      rw [x2e, ixn (i := 3 * k + 2) (by omega), v142, f142, nI_1]
      by_cases yK : rkV L f (rsP L f (rtP L f i)) < 6
      · have hO : rpO L f i = true := by unfold rpO; simp [yT, rsl, yK]
        rw [if_pos yK]
        refine ⟨fun _ => ⟨by rw [b2i_t hO], fun a b n => ?_, ?_, fun _ => ⟨?_, ?_, ?_⟩⟩, fun y => absurd ((nI_leI (a := 0) (by decide) (by omega)).mpr (Nat.zero_le _)) y⟩
        · rw [hu_app, if_neg (by omega)]; exact F142 a b n
        · rw [hu_app, if_pos ⟨rfl, rfl⟩]
          unfold rpP
          rw [if_pos yT, if_pos rsl]
          unfold rkP
          rw [if_pos yK]
        · rw [hu_app, if_neg (by omega), E142, hu_app, if_neg (by omega), hu_app, if_neg (by omega), E68, hu_app, if_neg (by omega), hu_app, if_neg (by omega), v9, if_pos yT]
        · rw [hu_app, if_neg (by omega), E142, hu_app, if_neg (by omega), hu_app, if_neg (by omega), E68, hu_app, if_pos ⟨rfl, rfl⟩]
        · rw [hu_app, if_neg (by omega), v142, if_pos yK]
      · have hO : rpO L f i = false := by unfold rpO; simp [yT, rsl]; omega
        rw [if_neg yK]
        refine ⟨fun y => absurd y (by decide), fun _ => ⟨by rw [hO]; rfl, F142, ?_, fun z => absurd (hO.symm.trans z) (by decide)⟩⟩
        unfold rpP
        rw [if_pos yT, if_pos rsl]
        unfold rkP
        rw [if_neg yK]
    · have z2 := (bh_115 hf (b := 104) (by decide)).mp z
      have rs : rsV L f (rtP L f i) = 1 := by unfold rsV; rw [if_pos z2.1, if_neg (by have := z2.2; omega), if_pos z2.2]
      have rsl : rsV L f (rtP L f i) < 2 := by omega
      have hrsp : sk L f (rtP L f i) + 1 = rsP L f (rtP L f i) := by unfold rsP; rw [if_pos rsl]
      have sd : (if bhI L f (sk L f (rtP L f i)) = 115 then 0 else 1 : Int32) = nI (rsV L f (rtP L f i)) := by rw [if_neg y, rs]; rfl
      intro H47 E47
      have e47 : H47 = hu H9 85 6 (nI (rsP L f (rtP L f i))) := by rw [E47, hu_app, if_pos ⟨rfl, rfl⟩, nI_1, hu_hu, hrsp]
      refine ⟨by rw [x1e]; exact vp_in_nI (by omega) (by decide), fun H68 E68 => ?_⟩
      rw [x1e, ixn (i := 3 * k + 1) (by omega), e47, sd] at E68
      have F68 : pFr k h H68 := fun a b n => by rw [E68, hu_app, if_neg (by omega), hu_app, if_neg (by omega)]; exact F9 a b n
      have f68 : H68 85 6 = nI (rsP L f (rtP L f i)) := by rw [E68, hu_app, if_neg (by omega), hu_app, if_pos ⟨rfl, rfl⟩]
      refine ⟨tF H68 F68, f68, hj2, by rw [x2e]; exact vp_in_nI (by omega) (by decide), fun H142 E142 => ?_⟩
      rw [x2e, ixn (i := 3 * k + 2) (by omega), kd_bh hf] at E142
      change H142 = hu (hu H68 85 6 (nI (sk L f (rsP L f (rtP L f i))))) 90 (3 * k + 2) (if rkV L f (rsP L f (rtP L f i)) < 6 then nI (rkV L f (rsP L f (rtP L f i))) else -1) at E142
      have F142 : pFr k h H142 := fun a b n => by rw [E142, hu_app, if_neg (by omega), hu_app, if_neg (by omega)]; exact F68 a b n
      have v142 : H142 90 (3 * k + 2) = (if rkV L f (rsP L f (rtP L f i)) < 6 then nI (rkV L f (rsP L f (rtP L f i))) else -1) := by rw [E142, hu_app, if_pos ⟨rfl, rfl⟩]
      have f142 : H142 85 6 = nI (sk L f (rsP L f (rtP L f i))) := by rw [E142, hu_app, if_neg (by omega), hu_app, if_pos ⟨rfl, rfl⟩]
      rw [x2e, ixn (i := 3 * k + 2) (by omega), v142, f142, nI_1]
      by_cases yK : rkV L f (rsP L f (rtP L f i)) < 6
      · have hO : rpO L f i = true := by unfold rpO; simp [yT, rsl, yK]
        rw [if_pos yK]
        refine ⟨fun _ => ⟨by rw [b2i_t hO], fun a b n => ?_, ?_, fun _ => ⟨?_, ?_, ?_⟩⟩, fun y => absurd ((nI_leI (a := 0) (by decide) (by omega)).mpr (Nat.zero_le _)) y⟩
        · rw [hu_app, if_neg (by omega)]; exact F142 a b n
        · rw [hu_app, if_pos ⟨rfl, rfl⟩]
          unfold rpP
          rw [if_pos yT, if_pos rsl]
          unfold rkP
          rw [if_pos yK]
        · rw [hu_app, if_neg (by omega), E142, hu_app, if_neg (by omega), hu_app, if_neg (by omega), E68, hu_app, if_neg (by omega), hu_app, if_neg (by omega), v9, if_pos yT]
        · rw [hu_app, if_neg (by omega), E142, hu_app, if_neg (by omega), hu_app, if_neg (by omega), E68, hu_app, if_pos ⟨rfl, rfl⟩]
        · rw [hu_app, if_neg (by omega), v142, if_pos yK]
      · have hO : rpO L f i = false := by unfold rpO; simp [yT, rsl]; omega
        rw [if_neg yK]
        refine ⟨fun y => absurd y (by decide), fun _ => ⟨by rw [hO]; rfl, F142, ?_, fun z => absurd (hO.symm.trans z) (by decide)⟩⟩
        unfold rpP
        rw [if_pos yT, if_pos rsl]
        unfold rkP
        rw [if_neg yK]
    · have rs : rsV L f (rtP L f i) = 2 := by
        unfold rsV
        by_cases w : sk L f (rtP L f i) < L
        · rw [if_pos w, if_neg (fun e => y ((bh_115 hf (b := 115) (by decide)).mpr ⟨w, e⟩)), if_neg (fun e => z ((bh_115 hf (b := 104) (by decide)).mpr ⟨w, e⟩))]
        · rw [if_neg w]
      have hO : rpO L f i = false := by unfold rpO; simp [rs]
      refine ⟨by rw [hO]; rfl, fun a b n => by rw [hu_app, if_neg (by omega)]; exact F9 a b n, ?_, fun z => absurd (hO.symm.trans z) (by decide)⟩
      rw [hu_app, if_pos ⟨rfl, rfl⟩]
      unfold rpP
      rw [if_pos yT, if_neg (by omega)]
      unfold rsP
      rw [if_neg (by omega)]
  · rw [if_neg yT]
    have hO : rpO L f i = false := by unfold rpO; simp [yT]
    refine ⟨fun y => absurd y (by decide), fun _ => ⟨by rw [hO]; rfl, F9, ?_, fun z => absurd (hO.symm.trans z) (by decide)⟩⟩
    rw [f9]
    unfold rpP
    rw [if_neg yT]
set_option maxRecDepth 20000 in
set_option maxHeartbeats 4000000 in
theorem gX10_readPeople_0 {G : td_G} {d : Nat} {Post : td_P} {h : td_H} (K : td_J G (d + 3) mX10_readPeople Post 7 [(0, .ref 85), (1, .int 0)] [] (hu h 85 6 0)) : td_J G (d + 3) mX10_readPeople Post 0 [(0, .ref 85)] [] h := by
  refine td_aload_n 0 dX10_readPeople_0 rfl ?_
  refine td_iconst (v := 0) dX10_readPeople_1 (by decide) ?_
  refine pf_X10_139 rfl kp_85 dX10_readPeople_2 ?_
  refine td_iconst (v := 0) dX10_readPeople_5 (by decide) ?_
  refine td_istore_n (lv2 := [(0, .ref 85), (1, .int 0)]) dX10_readPeople_6 (by decide) rfl ?_
  exact K
set_option maxRecDepth 20000 in
set_option maxHeartbeats 4000000 in
theorem gX10_readPeople_7 {G : td_G} {d : Nat} {Post : td_P} {L ia iσ17 k : Nat} {f : Nat → Nat} {x1 : Int32} {h : td_H} (K : (8 ≤ x1 → (Post (some (.int 0)) h)) ∧ (¬ 8 ≤ x1 → ((3 * x1) = nI (3 * k) ∧ k < 8 ∧ tN L f h ∧ h 85 6 = nI ia ∧ ia ≤ L ∧ (∀ h17 : td_H, (pFr k h h17 ∧ h17 85 6 = nI (rpP L f ia) ∧ (rpO L f ia = true → pV L f ia k h17)) → ((¬ (b2i (rpO L f ia = true)) = 0 → (tN L f (hu h17 85 7 (x1 + 1)) ∧ (hu h17 85 7 (x1 + 1)) 85 6 = nI iσ17 ∧ iσ17 ≤ L ∧ (∀ H33 : td_H, H33 = hu (hu h17 85 7 (x1 + 1)) 85 6 (nI (sk L f iσ17)) → ((0 ≤ (bhI L f (sk L f iσ17)) → ((¬ (bhI L f (sk L f iσ17)) = 59 → (Post (some (.int 0)) H33)) ∧ ((bhI L f (sk L f iσ17)) = 59 → ((¬ x1 = 7 → td_J G (d + 3) mX10_readPeople Post 7 [(0, .ref 85), (1, .int (x1 + 1))] [] (hu H33 85 6 ((H33 85 6) + 1))) ∧ (x1 = 7 → (Post (some (.int 0)) H33)))))) ∧ (¬ 0 ≤ (bhI L f (sk L f iσ17)) → (Post (some (.int 1)) H33)))))) ∧ ((b2i (rpO L f ia = true)) = 0 → (Post (some (.int 0)) h17))))))) : td_J G (d + 3) mX10_readPeople Post 7 [(0, .ref 85), (1, .int x1)] [] h := by
  refine td_iload_n 1 dX10_readPeople_7 rfl ?_
  refine td_bipush (v := 8) dX10_readPeople_8 (by decide) ?_
  obtain ⟨Kt, Kf⟩ := K
  refine td_icmp_ge (tgt := 73) dX10_readPeople_10 (by decide) (fun q10 => ?_) (fun q10 => ?_)
  · have K := Kt q10
    refine td_iconst (v := 0) dX10_readPeople_73 (by decide) ?_
    exact td_zreturn rfl rfl dX10_readPeople_74 K
  · have K := Kf q10
    refine td_aload_n 0 dX10_readPeople_13 rfl ?_
    refine td_iconst (v := 3) dX10_readPeople_14 (by decide) ?_
    refine td_iload_n 1 dX10_readPeople_15 rfl ?_
    refine td_imul dX10_readPeople_16 ?_
    obtain ⟨e17_0, K⟩ := K
    obtain ⟨e17_1, K⟩ := K
    obtain ⟨e17_2, K⟩ := K
    obtain ⟨e17_3, K⟩ := K
    obtain ⟨e17_4, K⟩ := K
    refine cl_X10_153 rfl kp_85 dX10_readPeople_17 (Nat.le_of_ble_eq_true rfl) (c_mpers L f ia k (3 * x1) e17_0 e17_1 e17_2 e17_3 e17_4) ?_
    rintro _ h17 ⟨rfl, f17⟩
    have K := K h17 f17
    refine td_eqs (st2 := [.int (b2i (rpO L f ia = true))]) rfl ?_
    obtain ⟨Kt, Kf⟩ := K
    refine td_if_ne (tgt := 25) dX10_readPeople_20 (by decide) (fun q20 => ?_) (fun q20 => ?_)
    · have K := Kt q20
      refine td_aload_n 0 dX10_readPeople_25 rfl ?_
      refine td_iload_n 1 dX10_readPeople_26 rfl ?_
      refine td_iconst (v := 1) dX10_readPeople_27 (by decide) ?_
      refine td_iadd dX10_readPeople_28 ?_
      refine pf_X10_156 rfl kp_85 dX10_readPeople_29 ?_
      refine td_aload_n 0 dX10_readPeople_32 rfl ?_
      obtain ⟨e33_0, K⟩ := K
      obtain ⟨e33_1, K⟩ := K
      obtain ⟨e33_2, K⟩ := K
      refine cl_X10_142 rfl kp_85 dX10_readPeople_33 (Nat.le_of_ble_eq_true rfl) (c_next L f iσ17 e33_0 e33_1 e33_2) (eR_k ?_)
      refine td_eqs (st2 := [.int (bhI L f (sk L f iσ17))]) rfl ?_
      obtain ⟨H33, E33⟩ : ∃ z : td_H, z = hu (hu h17 85 7 (x1 + 1)) 85 6 (nI (sk L f iσ17)) := ⟨_, rfl⟩
      have K := K H33 E33
      refine td_eqh E33 ?_
      refine td_istore_n (lv2 := [(0, .ref 85), (1, .int x1), (2, .int (bhI L f (sk L f iσ17)))]) dX10_readPeople_36 (by decide) rfl ?_
      refine td_iload_n 2 dX10_readPeople_37 rfl ?_
      obtain ⟨Kt, Kf⟩ := K
      refine td_if_ge (tgt := 43) dX10_readPeople_38 (by decide) (fun q38 => ?_) (fun q38 => ?_)
      · have K := Kt q38
        refine td_iload_n 2 dX10_readPeople_43 rfl ?_
        refine td_bipush (v := 59) dX10_readPeople_44 (by decide) ?_
        obtain ⟨Kt, Kf⟩ := K
        refine td_icmp_ne (tgt := 55) dX10_readPeople_46 (by decide) (fun q46 => ?_) (fun q46 => ?_)
        · have K := Kt q46
          refine td_iconst (v := 0) dX10_readPeople_55 (by decide) ?_
          exact td_zreturn rfl rfl dX10_readPeople_56 K
        · have K := Kf q46
          refine td_iload_n 1 dX10_readPeople_49 rfl ?_
          refine td_bipush (v := 7) dX10_readPeople_50 (by decide) ?_
          obtain ⟨Kt, Kf⟩ := K
          refine td_icmp_ne (tgt := 57) dX10_readPeople_52 (by decide) (fun q52 => ?_) (fun q52 => ?_)
          · have K := Kt q52
            refine td_aload_n 0 dX10_readPeople_57 rfl ?_
            refine td_dup dX10_readPeople_58 rfl ?_
            refine gf_X10_139 rfl kp_85 dX10_readPeople_59 ?_
            refine td_iconst (v := 1) dX10_readPeople_62 (by decide) ?_
            refine td_iadd dX10_readPeople_63 ?_
            refine pf_X10_139 rfl kp_85 dX10_readPeople_64 ?_
            refine td_iinc 1 (v := x1 + 1) (lv2 := [(0, .ref 85), (1, .int (x1 + 1)), (2, .int (bhI L f (sk L f iσ17)))]) dX10_readPeople_67 rfl (congrArg (x1 + ·) (by decide)) (by decide) rfl ?_
            refine td_goto (tgt := 7) dX10_readPeople_70 (by decide) ?_
            refine td_drop (lv2 := [(0, .ref 85), (1, .int (x1 + 1))]) [0, 1] rfl ?_
            exact K
          · have K := Kf q52
            refine td_iconst (v := 0) dX10_readPeople_55 (by decide) ?_
            exact td_zreturn rfl rfl dX10_readPeople_56 K
      · have K := Kf q38
        refine td_iconst (v := 1) dX10_readPeople_41 (by decide) ?_
        exact td_zreturn rfl rfl dX10_readPeople_42 K
    · have K := Kf q20
      refine td_iconst (v := 0) dX10_readPeople_23 (by decide) ?_
      exact td_zreturn rfl rfl dX10_readPeople_24 K
def rFr (h h' : td_H) : Prop := ∀ a b, ¬ ((a = 85 ∧ (b = 6 ∨ b = 7)) ∨ a = 90) → h' a b = h a b
def rdM (L : Nat) (f : Nat → Nat) (k : Nat) (h : td_H) : Prop := ∀ j, j < k → h 90 (3 * j) = nI (tT L f j) ∧ h 90 (3 * j + 1) = nI (tS L f j) ∧ h 90 (3 * j + 2) = nI (tK L f j)
def rdQ (L : Nat) (f : Nat → Nat) (h h' : td_H) : Prop := rFr h h' ∧ ((rdE L f 8 0).1 = 0 → h' 85 7 = nI (rdE L f 8 0).2 ∧ (rdE L f 8 0).2 ≤ 8 ∧ rdM L f (rdE L f 8 0).2 h') ∧ (¬ (rdE L f 8 0).1 = 0 → h' 85 6 = nI (rdE L f 8 0).2)
theorem c_mread {G : td_G} {d : Nat} {h : td_H} (L : Nat) (f : Nat → Nat) (ht : tN L f h) : td_C G (d + 3) mX10_readPeople [.ref 85] h (fun r h' => r = some (.int (b2i ((rdE L f 8 0).1 = 0))) ∧ rdQ L f h h') := by
  have hL := ht.1.1
  have hf := ht.1.2
  refine td_entry rfl (Nat.le_of_ble_eq_true rfl) rfl (gX10_readPeople_0 ?_)
  have tF : ∀ h2 : td_H, rFr h h2 → tN L f h2 := fun h2 q => ht.fr (fun a b z => q a b (by omega))
  have fault : ∀ (h1 : td_H) (p : Nat), rFr h h1 → h1 85 6 = nI p → rdE L f 8 0 = (1, p) → (some (Value.int 0) = some (.int (b2i ((rdE L f 8 0).1 = 0))) ∧ rdQ L f h h1) := by
    intro h1 p hF h6 he
    unfold rdQ
    rw [he]
    exact ⟨rfl, hF, fun z => absurd z (by show ¬ 1 = 0; decide), fun _ => h6⟩
  have loop : ∀ m k (h1 : td_H), m + k = 8 → plc L f k ≤ L → rdE L f m k = rdE L f 8 0 → rFr h h1 → h1 85 6 = nI (plc L f k) → rdM L f k h1 → td_J G (d + 3) mX10_readPeople (fun r h' => r = some (.int (b2i ((rdE L f 8 0).1 = 0))) ∧ rdQ L f h h') 7 [(0, .ref 85), (1, .int (nI k))] [] h1 := by
    intro m
    induction m with
    | zero =>
      intro k h1 hmk hp he hF h6 hA
      exact gX10_readPeople_7 (L := L) (f := f) (ia := 0) (iσ17 := 0) (k := 0) ⟨fun _ => fault h1 _ hF h6 he.symm, fun y => absurd (nle_of (a := 8) y) (by omega)⟩
    | succ m ih =>
      intro k h1 hmk hp he hF h6 hA
      have hk : k < 8 := by omega
      have ip := rpP_le (f := f) hp
      have id := sk_le (f := f) (L - rpP L f (plc L f k)) _ rfl ip
      rw [show rdE L f (m + 1) k = if rpO L f (plc L f k) = true then (if sk L f (rpP L f (plc L f k)) = L then (0, k + 1) else if f (sk L f (rpP L f (plc L f k))) = 59 ∧ k + 1 < 8 then rdE L f m (k + 1) else (1, sk L f (rpP L f (plc L f k)))) else (1, rpP L f (plc L f k)) from rfl] at he
      have e3 : 3 * nI k = nI (3 * k) := by rw [show (3 : Int32) = nI 3 from rfl, pk_mul]
      refine gX10_readPeople_7 (L := L) (f := f) (ia := plc L f k) (iσ17 := rpP L f (plc L f k)) (k := k) ⟨fun y => absurd (le_of (a := 8) y) (by omega), fun _ => ⟨e3, hk, tF h1 hF, h6, hp, fun h2 hh => ?_⟩⟩
      obtain ⟨pF, p6, pv⟩ := hh
      have F2 : rFr h h2 := fun a b n => by rw [pF a b (by omega)]; exact hF a b n
      refine ⟨fun y => ?_, fun y => ?_⟩
      · have hO := bnz y
        rw [if_pos hO] at he
        rw [nI_1]
        have F3 : rFr h (hu h2 85 7 (nI (k + 1))) := fun a b n => by rw [hu_app, if_neg (by omega)]; exact F2 a b n
        refine ⟨tF _ F3, by rw [hu_app, if_neg (by omega)]; exact p6, ip, fun H33 E33 => ?_⟩
        have F33 : rFr h H33 := fun a b n => by rw [E33, hu_app, if_neg (by omega)]; exact F3 a b n
        have f33 : H33 85 6 = nI (sk L f (rpP L f (plc L f k))) := by rw [E33, hu_app, if_pos ⟨rfl, rfl⟩]
        have g33 : H33 85 7 = nI (k + 1) := by rw [E33, hu_app, if_neg (by omega), hu_app, if_pos ⟨rfl, rfl⟩]
        have A33 : rdM L f (k + 1) H33 := fun j hj => by
          rw [E33, hu_app, if_neg (by omega), hu_app, if_neg (by omega), hu_app, if_neg (by omega), hu_app, if_neg (by omega), hu_app, if_neg (by omega), hu_app, if_neg (by omega)]
          by_cases e : j = k
          · subst e; exact pv hO
          · rw [pF 90 _ (by omega), pF 90 _ (by omega), pF 90 _ (by omega)]; exact hA j (by omega)
        have hpl : plc L f (k + 1) = sk L f (rpP L f (plc L f k)) + 1 := rfl
        generalize sk L f (rpP L f (plc L f k)) = j at *
        refine ⟨fun z => ?_, fun z => ?_⟩
        · have jl : ¬ j = L := fun u => by
            unfold bhI at z
            rw [if_pos (by omega)] at z
            exact absurd z (by decide)
          rw [if_neg jl] at he
          refine ⟨fun u => ?_, fun u => ⟨fun s => ?_, fun s => ?_⟩⟩
          · have u2 : ¬ f j = 59 := fun r => u ((bh_115 hf (b := 59) (by decide)).mpr ⟨by omega, r⟩)
            rw [if_neg (fun r => u2 r.1)] at he
            exact fault H33 j F33 f33 he.symm
          · have u2 := ((bh_115 hf (b := 59) (by decide)).mp u).2
            have s2 : k + 1 < 8 := by
              rcases Nat.lt_or_ge (k + 1) 8 with r | r
              · exact r
              · exact absurd (by rw [show k = 7 by omega]; rfl) s
            rw [if_pos ⟨u2, s2⟩] at he
            rw [f33, nI_1]
            refine td_to (ih (k + 1) (hu H33 85 6 (nI (j + 1))) (by omega) (by omega) he (fun a b n => ?_) (by rw [hu_app, if_pos ⟨rfl, rfl⟩, hpl]) (fun i hi => ?_)) rfl rfl rfl
            · rw [hu_app, if_neg (by omega)]; exact F33 a b n
            · rw [hu_app, if_neg (by omega), hu_app, if_neg (by omega), hu_app, if_neg (by omega)]; exact A33 i hi
          · have s2 : k = 7 := eq_of (b := 7) s
            rw [if_neg (fun r => by have := r.2; omega)] at he
            exact fault H33 j F33 f33 he.symm
        · have jl : j = L := by
            apply Decidable.byContradiction
            intro u
            have fb := hf j (by omega)
            unfold bhI at z
            rw [if_neg (by omega)] at z
            exact z ((nI_leI (a := 0) (by decide) (by omega)).mpr (Nat.zero_le _))
          rw [if_pos jl] at he
          unfold rdQ
          rw [← he]
          exact ⟨rfl, F33, fun _ => ⟨g33, hk, A33⟩, fun y => absurd rfl y⟩
      · have hO := bz y
        rw [if_neg hO] at he
        exact fault h2 _ F2 p6 he.symm
  refine loop 8 0 _ rfl (Nat.zero_le _) rfl (fun a b n => ?_) ?_ (fun j hj => absurd hj (by omega))
  · rw [hu_app, if_neg (by omega)]
  · rw [hu_app, if_pos ⟨rfl, rfl⟩]; rfl
set_option maxRecDepth 20000 in
set_option maxHeartbeats 4000000 in
theorem gX10_people_0 {G : td_G} {d : Nat} {Post : td_P} {L : Nat} {f : Nat → Nat} {h : td_H} (K : tN L f h ∧ (∀ h1 : td_H, (rdQ L f h h1) → ((¬ (b2i ((rdE L f 8 0).1 = 0)) = 0 → (((((hu h1 85 5 0) 86 9) + ((hu h1 85 5 0) 85 7)) ≤ 12 → td_J G (d + 4) mX10_people Post 44 [(0, .ref 85), (1, .int (b2i ((rdE L f 8 0).1 = 0))), (2, .int 0)] [] (hu h1 85 5 0)) ∧ (¬ (((hu h1 85 5 0) 86 9) + ((hu h1 85 5 0) 85 7)) ≤ 12 → (Post (some (.int (-3))) (hu h1 85 5 0))))) ∧ ((b2i ((rdE L f 8 0).1 = 0)) = 0 → (Post (some (.int ((-20) - ((hu h1 85 5 0) 85 6)))) (hu h1 85 5 0)))))) : td_J G (d + 4) mX10_people Post 0 [(0, .ref 85)] [] h := by
  refine td_aload_n 0 dX10_people_0 rfl ?_
  obtain ⟨e1_0, K⟩ := K
  refine cl_X10_159 rfl kp_85 dX10_people_1 (Nat.le_of_ble_eq_true rfl) (c_mread L f e1_0) ?_
  rintro _ h1 ⟨rfl, f1⟩
  have K := K h1 f1
  refine td_eqs (st2 := [.int (b2i ((rdE L f 8 0).1 = 0))]) rfl ?_
  refine td_istore_n (lv2 := [(0, .ref 85), (1, .int (b2i ((rdE L f 8 0).1 = 0)))]) dX10_people_4 (by decide) rfl ?_
  refine td_aload_n 0 dX10_people_5 rfl ?_
  refine td_iconst (v := 0) dX10_people_6 (by decide) ?_
  refine pf_X10_136 rfl kp_85 dX10_people_7 ?_
  refine td_iload_n 1 dX10_people_10 rfl ?_
  obtain ⟨Kt, Kf⟩ := K
  refine td_if_ne (tgt := 22) dX10_people_11 (by decide) (fun q11 => ?_) (fun q11 => ?_)
  · have K := Kt q11
    refine td_aload_n 0 dX10_people_22 rfl ?_
    refine gf_X10_7 rfl kp_85 dX10_people_23 ?_
    refine td_bipush (v := 9) dX10_people_26 (by decide) ?_
    refine td_ialdc (j := 9) kp_86 (by decide) (by unfold vp_in; decide) (by decide) dX10_people_28 ?_
    refine td_aload_n 0 dX10_people_29 rfl ?_
    refine gf_X10_156 rfl kp_85 dX10_people_30 ?_
    refine td_iadd dX10_people_33 ?_
    refine td_bipush (v := 12) dX10_people_34 (by decide) ?_
    obtain ⟨Kt, Kf⟩ := K
    refine td_icmp_le (tgt := 42) dX10_people_36 (by decide) (fun q36 => ?_) (fun q36 => ?_)
    · have K := Kt q36
      refine td_iconst (v := 0) dX10_people_42 (by decide) ?_
      refine td_istore_n (lv2 := [(0, .ref 85), (1, .int (b2i ((rdE L f 8 0).1 = 0))), (2, .int 0)]) dX10_people_43 (by decide) rfl ?_
      exact K
    · have K := Kf q36
      refine td_bipush (v := (-3)) dX10_people_39 (by decide) ?_
      exact td_ireturn rfl dX10_people_41 K
  · have K := Kf q11
    refine td_bipush (v := (-20)) dX10_people_14 (by decide) ?_
    refine td_aload_n 0 dX10_people_16 rfl ?_
    refine gf_X10_139 rfl kp_85 dX10_people_17 ?_
    refine td_isub dX10_people_20 ?_
    exact td_ireturn rfl dX10_people_21 K
set_option maxRecDepth 20000 in
set_option maxHeartbeats 4000000 in
theorem gX10_people_44 {G : td_G} {d : Nat} {Post : td_P} {ka sa ta : Nat} {c : nH} {x1 x2 : Int32} {h : td_H} (K : ((h 85 7) ≤ x2 → (Post (some (.int (h 85 7))) h)) ∧ (¬ (h 85 7) ≤ x2 → (vp_in (3 * x2) 24 ∧ (vp_in ((3 * x2) + 1) 24 ∧ (vp_in ((3 * x2) + 2) 24 ∧ ((h 90 (ix (3 * x2))) = nI ta ∧ (h 90 (ix ((3 * x2) + 1))) = nI sa ∧ (h 90 (ix ((3 * x2) + 2))) = nI ka ∧ mZ c 86 h ∧ c 1 0 < 12 ∧ (∀ h81 : td_H, ((∀ a b, a ≠ 86 → h81 a b = h a b) ∧ mZ (addG c ta sa ka) 86 h81) → (td_J G (d + 4) mX10_people Post 44 [(0, .ref 85), (1, .int x1), (2, .int (x2 + 1))] [] h81)))))))) : td_J G (d + 4) mX10_people Post 44 [(0, .ref 85), (1, .int x1), (2, .int x2)] [] h := by
  refine td_iload_n 2 dX10_people_44 rfl ?_
  refine td_aload_n 0 dX10_people_45 rfl ?_
  refine gf_X10_156 rfl kp_85 dX10_people_46 ?_
  obtain ⟨Kt, Kf⟩ := K
  refine td_icmp_ge (tgt := 90) dX10_people_49 (by decide) (fun q49 => ?_) (fun q49 => ?_)
  · have K := Kt q49
    refine td_aload_n 0 dX10_people_90 rfl ?_
    refine gf_X10_156 rfl kp_85 dX10_people_91 ?_
    exact td_ireturn rfl dX10_people_94 K
  · have K := Kf q49
    refine td_aload_n 0 dX10_people_52 rfl ?_
    refine td_aload_n 0 dX10_people_53 rfl ?_
    refine gf_X10_22 rfl kp_85 dX10_people_54 ?_
    refine td_iconst (v := 3) dX10_people_57 (by decide) ?_
    refine td_iload_n 2 dX10_people_58 rfl ?_
    refine td_imul dX10_people_59 ?_
    obtain ⟨e60, K⟩ := K
    refine td_ialdc (j := (ix (3 * x2))) kp_90 (by decide) e60 rfl dX10_people_60 ?_
    refine td_aload_n 0 dX10_people_61 rfl ?_
    refine gf_X10_22 rfl kp_85 dX10_people_62 ?_
    refine td_iconst (v := 3) dX10_people_65 (by decide) ?_
    refine td_iload_n 2 dX10_people_66 rfl ?_
    refine td_imul dX10_people_67 ?_
    refine td_iconst (v := 1) dX10_people_68 (by decide) ?_
    refine td_iadd dX10_people_69 ?_
    obtain ⟨e70, K⟩ := K
    refine td_ialdc (j := (ix ((3 * x2) + 1))) kp_90 (by decide) e70 rfl dX10_people_70 ?_
    refine td_aload_n 0 dX10_people_71 rfl ?_
    refine gf_X10_22 rfl kp_85 dX10_people_72 ?_
    refine td_iconst (v := 3) dX10_people_75 (by decide) ?_
    refine td_iload_n 2 dX10_people_76 rfl ?_
    refine td_imul dX10_people_77 ?_
    refine td_iconst (v := 2) dX10_people_78 (by decide) ?_
    refine td_iadd dX10_people_79 ?_
    obtain ⟨e80, K⟩ := K
    refine td_ialdc (j := (ix ((3 * x2) + 2))) kp_90 (by decide) e80 rfl dX10_people_80 ?_
    obtain ⟨e81_0, K⟩ := K
    obtain ⟨e81_1, K⟩ := K
    obtain ⟨e81_2, K⟩ := K
    obtain ⟨e81_3, K⟩ := K
    obtain ⟨e81_4, K⟩ := K
    refine cl_X10_115 rfl kp_85 dX10_people_81 (Nat.le_of_ble_eq_true rfl) (c_madd c ta sa ka (h 90 (ix (3 * x2))) (h 90 (ix ((3 * x2) + 1))) (h 90 (ix ((3 * x2) + 2))) e81_0 e81_1 e81_2 e81_3 e81_4) ?_
    rintro _ h81 ⟨rfl, f81⟩
    have K := K h81 f81
    refine td_eqs (st2 := []) rfl ?_
    refine td_iinc 2 (v := x2 + 1) (lv2 := [(0, .ref 85), (1, .int x1), (2, .int (x2 + 1))]) dX10_people_84 rfl (congrArg (x2 + ·) (by decide)) (by decide) rfl ?_
    refine td_goto (tgt := 44) dX10_people_87 (by decide) ?_
    exact K
set_option maxRecDepth 20000 in
set_option maxHeartbeats 4000000 in
theorem gX10_type_0 {G : td_G} {d : Nat} {Post : td_P} {x3 : Int32} {w1 : Int64} {h : td_H} (K : (¬ (b2i (1 ≤ x3.toInt64 ∧ x3.toInt64 ≤ 8)) = 0 → td_J G (d + 1) mX10_type Post 19 [(0, .ref 85), (1, .long w1), (3, .int x3), (4, .int (x3 - 1))] [] h) ∧ ((b2i (1 ≤ x3.toInt64 ∧ x3.toInt64 ≤ 8)) = 0 → (Post (some (.int (-1))) h))) : td_J G (d + 1) mX10_type Post 0 [(0, .ref 85), (1, .long w1), (3, .int x3)] [] h := by
  refine td_iload_n 2 dX10_type_0 rfl ?_
  refine td_i2l dX10_type_1 ?_
  refine td_lconst (v := 1) dX10_type_2 (by decide) ?_
  refine td_ldc2 (v := 8) kw_X10_73 dX10_type_3 ?_
  refine cl_X10_75 rfl dX10_type_6 (Nat.le_of_ble_eq_true rfl) (c_in x3.toInt64 1 8) (eR_k ?_)
  refine td_eqs (st2 := [.int (b2i (1 ≤ x3.toInt64 ∧ x3.toInt64 ≤ 8))]) rfl ?_
  obtain ⟨Kt, Kf⟩ := K
  refine td_if_ne (tgt := 14) dX10_type_9 (by decide) (fun q9 => ?_) (fun q9 => ?_)
  · have K := Kt q9
    refine td_iload_n 2 dX10_type_14 rfl ?_
    refine td_iconst (v := 1) dX10_type_15 (by decide) ?_
    refine td_isub dX10_type_16 ?_
    refine td_istore (lv2 := [(0, .ref 85), (1, .long w1), (3, .int x3), (4, .int (x3 - 1))]) dX10_type_17 (by decide) rfl ?_
    exact K
  · have K := Kf q9
    refine td_iconst (v := (-1)) dX10_type_12 (by decide) ?_
    exact td_ireturn rfl dX10_type_13 K
set_option maxRecDepth 20000 in
set_option maxHeartbeats 4000000 in
theorem gX10_type_19 {G : td_G} {d : Nat} {Post : td_P} {x3 x4 : Int32} {w1 : Int64} {h : td_H} (K : (x4 < 0 → ((((h 85 5) + x3) ≤ 80 → td_J G (d + 1) mX10_type Post 74 [(0, .ref 85), (1, .long w1), (3, .int x3), (4, .int (x3 - 1))] [] h) ∧ (¬ ((h 85 5) + x3) ≤ 80 → (Post (some (.int (-3))) h)))) ∧ (¬ x4 < 0 → ((¬ (b2i (32 ≤ ((jlshr w1 (8 * x4)) &&& 255) ∧ ((jlshr w1 (8 * x4)) &&& 255) ≤ 126)) = 0 → td_J G (d + 1) mX10_type Post 19 [(0, .ref 85), (1, .long w1), (3, .int x3), (4, .int (x4 + (-1)))] [] h) ∧ ((b2i (32 ≤ ((jlshr w1 (8 * x4)) &&& 255) ∧ ((jlshr w1 (8 * x4)) &&& 255) ≤ 126)) = 0 → (Post (some (.int (-1))) h))))) : td_J G (d + 1) mX10_type Post 19 [(0, .ref 85), (1, .long w1), (3, .int x3), (4, .int x4)] [] h := by
  refine td_iload 3 dX10_type_19 rfl ?_
  obtain ⟨Kt, Kf⟩ := K
  refine td_if_lt (tgt := 55) dX10_type_21 (by decide) (fun q21 => ?_) (fun q21 => ?_)
  · have K := Kt q21
    refine td_aload_n 0 dX10_type_55 rfl ?_
    refine gf_X10_136 rfl kp_85 dX10_type_56 ?_
    refine td_iload_n 2 dX10_type_59 rfl ?_
    refine td_iadd dX10_type_60 ?_
    refine td_bipush (v := 80) dX10_type_61 (by decide) ?_
    obtain ⟨Kt, Kf⟩ := K
    refine td_icmp_le (tgt := 69) dX10_type_63 (by decide) (fun q63 => ?_) (fun q63 => ?_)
    · have K := Kt q63
      refine td_iload_n 2 dX10_type_69 rfl ?_
      refine td_iconst (v := 1) dX10_type_70 (by decide) ?_
      refine td_isub dX10_type_71 ?_
      refine td_istore (lv2 := [(0, .ref 85), (1, .long w1), (3, .int x3), (4, .int (x3 - 1))]) dX10_type_72 (by decide) rfl ?_
      exact K
    · have K := Kf q63
      refine td_bipush (v := (-3)) dX10_type_66 (by decide) ?_
      exact td_ireturn rfl dX10_type_68 K
  · have K := Kf q21
    refine td_lload_n 1 dX10_type_24 rfl ?_
    refine td_bipush (v := 8) dX10_type_25 (by decide) ?_
    refine td_iload 3 dX10_type_27 rfl ?_
    refine td_imul dX10_type_29 ?_
    refine td_lshr dX10_type_30 ?_
    refine td_ldc2 (v := 255) kw_X10_130 dX10_type_31 ?_
    refine td_land dX10_type_34 ?_
    refine td_ldc2 (v := 32) kw_X10_132 dX10_type_35 ?_
    refine td_ldc2 (v := 126) kw_X10_134 dX10_type_38 ?_
    refine cl_X10_75 rfl dX10_type_41 (Nat.le_of_ble_eq_true rfl) (c_in ((jlshr w1 (8 * x4)) &&& 255) 32 126) (eR_k ?_)
    refine td_eqs (st2 := [.int (b2i (32 ≤ ((jlshr w1 (8 * x4)) &&& 255) ∧ ((jlshr w1 (8 * x4)) &&& 255) ≤ 126))]) rfl ?_
    obtain ⟨Kt, Kf⟩ := K
    refine td_if_ne (tgt := 49) dX10_type_44 (by decide) (fun q44 => ?_) (fun q44 => ?_)
    · have K := Kt q44
      refine td_iinc 3 (v := x4 + (-1)) (lv2 := [(0, .ref 85), (1, .long w1), (3, .int x3), (4, .int (x4 + (-1)))]) dX10_type_49 rfl (congrArg (x4 + ·) (by decide)) (by decide) rfl ?_
      refine td_goto (tgt := 19) dX10_type_52 (by decide) ?_
      exact K
    · have K := Kf q44
      refine td_iconst (v := (-1)) dX10_type_47 (by decide) ?_
      exact td_ireturn rfl dX10_type_48 K
set_option maxRecDepth 20000 in
set_option maxHeartbeats 4000000 in
theorem gX10_type_74 {G : td_G} {d : Nat} {Post : td_P} {x3 x4 : Int32} {w1 : Int64} {h : td_H} (K : (x4 < 0 → (Post (some (.int (h 85 5))) h)) ∧ (¬ x4 < 0 → (vp_in (h 85 5) 80 ∧ (td_J G (d + 1) mX10_type Post 74 [(0, .ref 85), (1, .long w1), (3, .int x3), (4, .int (x4 + (-1)))] [] (hu (hu h 89 (ix (h 85 5)) (((jlshr w1 (8 * x4)) &&& 255).toInt32)) 85 5 (((hu h 89 (ix (h 85 5)) (((jlshr w1 (8 * x4)) &&& 255).toInt32)) 85 5) + 1)))))) : td_J G (d + 1) mX10_type Post 74 [(0, .ref 85), (1, .long w1), (3, .int x3), (4, .int x4)] [] h := by
  refine td_iload 3 dX10_type_74 rfl ?_
  obtain ⟨Kt, Kf⟩ := K
  refine td_if_lt (tgt := 116) dX10_type_76 (by decide) (fun q76 => ?_) (fun q76 => ?_)
  · have K := Kt q76
    refine td_aload_n 0 dX10_type_116 rfl ?_
    refine gf_X10_136 rfl kp_85 dX10_type_117 ?_
    exact td_ireturn rfl dX10_type_120 K
  · have K := Kf q76
    refine td_aload_n 0 dX10_type_79 rfl ?_
    refine gf_X10_19 rfl kp_85 dX10_type_80 ?_
    refine td_aload_n 0 dX10_type_83 rfl ?_
    refine gf_X10_136 rfl kp_85 dX10_type_84 ?_
    refine td_lload_n 1 dX10_type_87 rfl ?_
    refine td_bipush (v := 8) dX10_type_88 (by decide) ?_
    refine td_iload 3 dX10_type_90 rfl ?_
    refine td_imul dX10_type_92 ?_
    refine td_lshr dX10_type_93 ?_
    refine td_ldc2 (v := 255) kw_X10_130 dX10_type_94 ?_
    refine td_land dX10_type_97 ?_
    refine td_l2i dX10_type_98 ?_
    obtain ⟨e99, K⟩ := K
    refine td_iastc (j := (ix (h 85 5))) kp_89 (by decide) e99 rfl dX10_type_99 ?_
    refine td_aload_n 0 dX10_type_100 rfl ?_
    refine td_dup dX10_type_101 rfl ?_
    refine gf_X10_136 rfl kp_85 dX10_type_102 ?_
    refine td_iconst (v := 1) dX10_type_105 (by decide) ?_
    refine td_iadd dX10_type_106 ?_
    refine pf_X10_136 rfl kp_85 dX10_type_107 ?_
    refine td_iinc 3 (v := x4 + (-1)) (lv2 := [(0, .ref 85), (1, .long w1), (3, .int x3), (4, .int (x4 + (-1)))]) dX10_type_110 rfl (congrArg (x4 + ·) (by decide)) (by decide) rfl ?_
    refine td_goto (tgt := 74) dX10_type_113 (by decide) ?_
    exact K
theorem M_people {G : td_G} {d : Nat} {h : td_H} {s : gS} (O : OK s) (I : MI s h) : ((rdE s.2.2.1.1 s.2.2.1.2 8 0).1 = 0 → s.1 1 0 + (rdE s.2.2.1.1 s.2.2.1.2 8 0).2 ≤ 12 → td_C G (d + 4) mX10_people [.ref 85] h (mPost (nI (rdE s.2.2.1.1 s.2.2.1.2 8 0).2) (adG s.1 s.2.2.1.1 s.2.2.1.2 (rdE s.2.2.1.1 s.2.2.1.2 8 0).2, s.2.1, (0, s.2.2.1.2), s.2.2.2) h)) ∧ ((rdE s.2.2.1.1 s.2.2.1.2 8 0).1 = 0 → ¬ s.1 1 0 + (rdE s.2.2.1.1 s.2.2.1.2 8 0).2 ≤ 12 → td_C G (d + 4) mX10_people [.ref 85] h (mPost (-3) (s.1, s.2.1, (0, s.2.2.1.2), s.2.2.2) h)) ∧ (¬ (rdE s.2.2.1.1 s.2.2.1.2 8 0).1 = 0 → td_C G (d + 4) mX10_people [.ref 85] h (mPost ((-20) - nI (rdE s.2.2.1.1 s.2.2.1.2 8 0).2) (s.1, s.2.1, (0, s.2.2.1.2), s.2.2.2) h)) := by
  obtain ⟨g, o, ⟨L, f⟩, S⟩ := s
  have ht : tN L f h := ⟨O.2.2.1, I.2.2.1⟩
  have hn : g 1 0 ≤ 12 := O.1.n
  have e9 : h 86 9 = nI (g 1 0) := I.1.2.1
  have emp : ∀ h1, rFr h h1 → MI (g, o, (0, f), S) (hu h1 85 5 0) ∧ FD h (hu h1 85 5 0) := fun h1 hF => by
    have e : ∀ a b, ¬ ((a = 85 ∧ (b = 5 ∨ b = 6 ∨ b = 7)) ∨ a = 90) → (hu h1 85 5 0) a b = h a b := fun a b z => by rw [hu_app, if_neg (by omega)]; exact hF a b (by omega)
    exact ⟨⟨I.1.fr (fun b => e _ _ (by omega)), I.2.1.fr (e _ _ (by omega)) (fun b => e _ _ (by omega)), ⟨by rw [hu_app, if_pos ⟨rfl, rfl⟩]; rfl, fun i hi => absurd hi (Nat.not_lt_zero i)⟩, I.2.2.2.fr (fun a b _ => e _ _ (by omega))⟩, fun a b z => e a b (by omega)⟩
  refine ⟨fun h0 hl => ?_, fun h0 hl => ?_, fun h0 => ?_⟩
  · refine td_entry rfl (Nat.le_of_ble_eq_true rfl) rfl (gX10_people_0 (L := L) (f := f) ⟨ht, fun h1 hh => ⟨fun _ => ?_, fun y => absurd h0 (bz y)⟩⟩)
    obtain ⟨hF, hA, -⟩ := hh
    obtain ⟨k7, k8, kM⟩ := hA h0
    obtain ⟨IE, FE⟩ := emp h1 hF
    have E9 : (hu h1 85 5 0) 86 9 = nI (g 1 0) := IE.1.2.1
    have E7 : (hu h1 85 5 0) 85 7 = nI (rdE L f 8 0).2 := by rw [hu_app, if_neg (by omega)]; exact k7
    have hl : g 1 0 + (rdE L f 8 0).2 ≤ 12 := hl
    rw [E9, E7, nI_add]
    refine ⟨fun _ => ?_, fun y => absurd ((nI_leI (b := 12) (by omega) (by decide)).mpr hl) y⟩
    have A4 : ∀ j, j < (rdE L f 8 0).2 → (hu h1 85 5 0) 90 (3 * j) = nI (tT L f j) ∧ (hu h1 85 5 0) 90 (3 * j + 1) = nI (tS L f j) ∧ (hu h1 85 5 0) 90 (3 * j + 2) = nI (tK L f j) := fun j hj => by
      rw [hu_app, if_neg (by omega), hu_app, if_neg (by omega), hu_app, if_neg (by omega)]; exact kM j hj
    generalize (rdE L f 8 0).2 = m at *
    generalize b2i ((rdE L f 8 0).1 = 0) = x1
    refine td_forH m (fun k => [(0, .ref 85), (1, .int x1), (2, .int (nI k))]) (fun k h2 => (∀ a b, a ≠ 86 → h2 a b = (hu h1 85 5 0) a b) ∧ mZ (adG g L f k) 86 h2) rfl ⟨fun _ _ _ => rfl, IE.1⟩ (fun k hk h2 hI ih => ?_) (fun h2 hI => ?_)
    · obtain ⟨hF2, hP⟩ := hI
      obtain ⟨b1, b2, b3⟩ := A4 k hk
      have en := adG_1 g L f k
      have e3 : 3 * nI k = nI (3 * k) := by rw [show (3 : Int32) = nI 3 from rfl, pk_mul]
      have e32 : nI (3 * k) + 2 = nI (3 * k + 2) := by rw [show (2 : Int32) = nI 2 from rfl, nI_add]
      refine gX10_people_44 (c := adG g L f k) (ta := tT L f k) (sa := tS L f k) (ka := tK L f k) ?_
      rw [hF2 85 7 (by omega), E7, e3, e32, nI_1 (3 * k), ixn (i := 3 * k) (by omega), ixn (i := 3 * k + 1) (by omega), ixn (i := 3 * k + 2) (by omega), hF2 90 _ (by omega), hF2 90 _ (by omega), hF2 90 _ (by omega), b1, b2, b3]
      refine ⟨fun y => absurd (le_of y) (by omega), fun _ => ⟨vp_in_nI (by omega) (by decide), vp_in_nI (by omega) (by decide), vp_in_nI (by omega) (by decide), rfl, rfl, rfl, hP, by omega, fun h3 h33 => ?_⟩⟩
      exact td_to (ih h3 ⟨fun a b z => (h33.1 a b z).trans (hF2 a b z), h33.2⟩) (by rw [nI_1]) rfl rfl
    · obtain ⟨hF2, hP⟩ := hI
      obtain ⟨I2, F2⟩ := IE.plan (adG g L f m) hP hF2
      refine gX10_people_44 (c := g) (ta := 0) (sa := 0) (ka := 0) ⟨fun _ => ⟨?_, I2, fun a b z => (F2 a b z).trans (FE a b z)⟩, fun y => ?_⟩
      · rw [hF2 85 7 (by omega), E7]
      · rw [hF2 85 7 (by omega), E7] at y
        exact absurd (nle_of y) (by omega)
  · refine td_entry rfl (Nat.le_of_ble_eq_true rfl) rfl (gX10_people_0 (L := L) (f := f) ⟨ht, fun h1 hh => ⟨fun _ => ?_, fun y => absurd h0 (bz y)⟩⟩)
    obtain ⟨hF, hA, -⟩ := hh
    obtain ⟨k7, k8, kM⟩ := hA h0
    obtain ⟨IE, FE⟩ := emp h1 hF
    have E9 : (hu h1 85 5 0) 86 9 = nI (g 1 0) := IE.1.2.1
    have E7 : (hu h1 85 5 0) 85 7 = nI (rdE L f 8 0).2 := by rw [hu_app, if_neg (by omega)]; exact k7
    have hl : ¬ g 1 0 + (rdE L f 8 0).2 ≤ 12 := hl
    rw [E9, E7, nI_add]
    exact ⟨fun y => absurd (le_of (b := 12) y) hl, fun _ => ⟨rfl, IE, FE⟩⟩
  · refine td_entry rfl (Nat.le_of_ble_eq_true rfl) rfl (gX10_people_0 (L := L) (f := f) ⟨ht, fun h1 hh => ⟨fun y => absurd (bnz y) h0, fun _ => ⟨?_, emp h1 hh.1⟩⟩⟩)
    rw [hu_app, if_neg (by omega), hh.2.2 h0]
/-! type -/
theorem lN_64 (x : Int64) : x = lN x.toBitVec.toNat := by
  apply Int64.toBitVec_inj.1
  show x.toBitVec = BitVec.ofNat 64 x.toBitVec.toNat
  exact (BitVec.ofNat_toNat _ _).symm ▸ (by simp)
theorem by_L (w : Int64) (k : Nat) : (jlshr w (8 * nI k)) &&& 255 = lN (byN w k) := by
  obtain ⟨e, hb⟩ := by_eq w k
  unfold byI at e
  generalize jlshr w (8 * nI k) = z at e ⊢
  generalize byN w k = n at e hb ⊢
  rw [lN_64 z] at e ⊢
  generalize z.toBitVec.toNat = a at e ⊢
  rw [lN_i, show (255 : Int32) = nI (2 ^ 8 - 1) from rfl, fa_mask] at e
  rw [show (255 : Int64) = lN (2 ^ 8 - 1) from rfl, fb_maskL]
  rw [eq_of e (by omega) (by omega)]
theorem by_32 (w : Int64) (k : Nat) : ((jlshr w (8 * nI k)) &&& 255).toInt32 = nI (byN w k) := by rw [by_L, lN_i]
theorem pl_64 (w : Int64) (k : Nat) : ((32 : Int64) ≤ (jlshr w (8 * nI k)) &&& 255 ∧ (jlshr w (8 * nI k)) &&& 255 ≤ 126) ↔ plW w k = true := by
  have hb := (by_eq w k).2
  rw [by_L, show (32 : Int64) = lN 32 from rfl, show (126 : Int64) = lN 126 from rfl, lN_le (by decide) (by omega), lN_le (by omega) (by decide)]
  unfold plW
  rw [Bool.and_eq_true, decide_eq_true_eq, decide_eq_true_eq]
theorem ty_64 {x : Int32} : ((1 : Int64) ≤ x.toInt64 ∧ x.toInt64 ≤ 8) ↔ (¬ x < 1 ∧ ¬ 8 < x) := by
  rw [fa_le64, fa_le64, Int32.toInt_toInt64, fa_lt, fa_lt, show (1 : Int64).toInt = 1 by decide, show (8 : Int64).toInt = 8 by decide, show (1 : Int32).toInt = 1 by decide, show (8 : Int32).toInt = 8 by decide]
  omega
theorem m_scan {G : td_G} {d : Nat} {h : td_H} {Post : td_P} (w : Int64) (n : Nat) (n8 : n ≤ 8) (K1 : (∀ k, k < n → plW w k = true) → td_J G (d + 1) mX10_type Post 19 [(0, .ref 85), (1, .long w), (3, .int (nI n)), (4, .int (nI 0 - 1))] [] h) (K2 : (¬ ∀ k, k < n → plW w k = true) → Post (some (.int (-1))) h) : ∀ m, m ≤ n → (∀ k, m ≤ k → k < n → plW w k = true) → td_J G (d + 1) mX10_type Post 19 [(0, .ref 85), (1, .long w), (3, .int (nI n)), (4, .int (nI m - 1))] [] h := by
  intro m
  induction m with
  | zero => intro _ ha; exact K1 (fun k hk => ha k (Nat.zero_le k) hk)
  | succ m ih =>
    intro hm ha
    have e1 : nI (m + 1) - 1 = nI m := pk_sub (a := m + 1) (b := 1) (by omega)
    rw [e1]
    refine gX10_type_19 ⟨fun y => absurd (lt_of (b := 0) y) (by omega), fun _ => ⟨fun y => ?_, fun y => K2 (fun z => ?_)⟩⟩
    · rw [show nI m + -1 = nI m - 1 from (Int32.sub_eq_add_neg _ _).symm]
      refine ih (by omega) (fun k h1 h2 => ?_)
      by_cases e : k = m
      · subst e; exact (pl_64 w k).mp (bnz y)
      · exact ha k (by omega) h2
    · exact bz y ((pl_64 w m).mpr (z m (by omega)))
theorem M_type {G : td_G} {d : Nat} {h : td_H} {s : gS} (w : Int64) (x : Int32) (O : OK s) (I : MI s h) : (okType w x → s.2.2.1.1 + ix x ≤ 80 → td_C G (d + 1) mX10_type [.ref 85, .long w, .int x] h (mPost (nI (s.2.2.1.1 + ix x)) (s.1, s.2.1, (s.2.2.1.1 + ix x, apF s.2.2.1.1 s.2.2.1.2 w (ix x)), s.2.2.2) h)) ∧ (okType w x → ¬ s.2.2.1.1 + ix x ≤ 80 → td_C G (d + 1) mX10_type [.ref 85, .long w, .int x] h (mPost (-3) s h)) ∧ (¬ okType w x → td_C G (d + 1) mX10_type [.ref 85, .long w, .int x] h (mPost (-1) s h)) := by
  obtain ⟨g, o, ⟨L, f⟩, S⟩ := s
  have hL : L ≤ 80 := O.2.2.1.1
  have h5 : h 85 5 = nI L := I.2.2.1.1
  have neg : nI 0 - 1 < 0 := by decide
  refine ⟨fun ok hl => ?_, fun ok hl => ?_, fun nk => ?_⟩
  · obtain ⟨n, n1, n8, rfl, en, v9⟩ := ty_in ok.1
    obtain ⟨o1, o2⟩ := ok
    rw [en] at hl o2 ⊢
    have hl : L + n ≤ 80 := hl
    refine td_entry rfl (Nat.le_of_ble_eq_true rfl) rfl (gX10_type_0 ⟨fun _ => ?_, fun y => absurd (ty_64.mpr o1) (bz y)⟩)
    refine m_scan w n n8 (fun _ => ?_) (fun z => absurd (fun k hk => allB_iff.mp o2 k hk) z) n (Nat.le_refl n) (fun k h1 h2 => absurd h2 (by omega))
    refine gX10_type_19 ⟨fun _ => ?_, fun y => absurd neg y⟩
    rw [h5, nI_add]
    refine ⟨fun _ => ?_, fun y => absurd ((nI_leI (b := 80) (by omega) (by decide)).mpr hl) y⟩
    have loop : ∀ m (h1 : td_H), m ≤ n → (∀ a b, ¬ ((a = 85 ∧ b = 5) ∨ a = 89) → h1 a b = h a b) → h1 85 5 = nI (L + (n - m)) → (∀ i, i < L + (n - m) → h1 89 i = nI (apF L f w n i)) → td_J G (d + 1) mX10_type (mPost (nI (L + n)) (g, o, (L + n, apF L f w n), S) h) 74 [(0, .ref 85), (1, .long w), (3, .int (nI n)), (4, .int (nI m - 1))] [] h1 := by
      intro m
      induction m with
      | zero =>
        intro h1 _ hF h4 hb
        refine gX10_type_74 ⟨fun _ => ⟨by rw [h4]; rfl, ⟨I.1.fr (fun b => hF _ _ (by omega)), I.2.1.fr (hF _ _ (by omega)) (fun b => hF _ _ (by omega)), ⟨h4, hb⟩, I.2.2.2.fr (fun a b _ => hF _ _ (by omega))⟩, fun a b z => hF a b (by omega)⟩, fun y => absurd neg y⟩
      | succ m ih =>
        intro h1 hm hF h4 hb
        have e1 : nI (m + 1) - 1 = nI m := pk_sub (a := m + 1) (b := 1) (by omega)
        rw [e1]
        refine gX10_type_74 ?_
        rw [h4, by_32, ixn (i := L + (n - (m + 1))) (by omega)]
        refine ⟨fun y => absurd (lt_of (b := 0) y) (by omega), fun _ => ⟨vp_in_nI (by omega) (by decide), ?_⟩⟩
        have g4 : (hu h1 89 (L + (n - (m + 1))) (nI (byN w m))) 85 5 = nI (L + (n - (m + 1))) := by rw [hu_app, if_neg (by omega)]; exact h4
        rw [g4, nI_1, show nI m + -1 = nI m - 1 from (Int32.sub_eq_add_neg _ _).symm]
        refine ih _ (by omega) (fun a b nn => ?_) ?_ (fun i hi => ?_)
        · rw [hu_app, if_neg (by omega), hu_app, if_neg (by omega)]; exact hF a b nn
        · rw [hu_app, if_pos ⟨rfl, rfl⟩]; congr 1; omega
        · rw [hu_app, if_neg (by omega), hu_app]
          by_cases z : i = L + (n - (m + 1))
          · rw [if_pos ⟨rfl, z⟩, z]
            unfold apF
            rw [if_neg (by omega), show n - 1 - (L + (n - (m + 1)) - L) = m by omega]
          · rw [if_neg (fun y => z y.2)]; exact hb i (by omega)
    refine loop n h (Nat.le_refl n) (fun _ _ _ => rfl) (by rw [Nat.sub_self]; exact h5) (fun i hi => ?_)
    rw [Nat.sub_self, Nat.add_zero] at hi
    rw [I.2.2.1.2 i hi]
    unfold apF
    rw [if_pos hi]
  · obtain ⟨n, n1, n8, rfl, en, v9⟩ := ty_in ok.1
    obtain ⟨o1, o2⟩ := ok
    rw [en] at hl o2
    have hl : ¬ L + n ≤ 80 := hl
    refine td_entry rfl (Nat.le_of_ble_eq_true rfl) rfl (gX10_type_0 ⟨fun _ => ?_, fun y => absurd (ty_64.mpr o1) (bz y)⟩)
    refine m_scan w n n8 (fun _ => ?_) (fun z => absurd (fun k hk => allB_iff.mp o2 k hk) z) n (Nat.le_refl n) (fun k h1 h2 => absurd h2 (by omega))
    refine gX10_type_19 ⟨fun _ => ?_, fun y => absurd neg y⟩
    rw [h5, nI_add]
    exact ⟨fun y => absurd (le_of (b := 80) y) hl, fun _ => ⟨rfl, I, FD.rf h⟩⟩
  · refine td_entry rfl (Nat.le_of_ble_eq_true rfl) rfl (gX10_type_0 ⟨fun y => ?_, fun _ => ⟨rfl, I, FD.rf h⟩⟩)
    have o1 := ty_64.mp (bnz y)
    obtain ⟨n, n1, n8, rfl, en, v9⟩ := ty_in o1
    exact m_scan w n n8 (fun z => absurd ⟨o1, by rw [en]; exact allB_iff.mpr z⟩ nk) (fun _ => ⟨rfl, I, FD.rf h⟩) n (Nat.le_refl n) (fun k h1 h2 => absurd h2 (by omega))
