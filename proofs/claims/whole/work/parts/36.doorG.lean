/-! Door: which part, stepping in -/
set_option maxRecDepth 20000 in
set_option maxHeartbeats 4000000 in
theorem gX0_enter_0 {G : td_G} {d : Nat} {Post : td_P} {m : Nat → Bool} {c σ : nH} {k0 : Nat} {x1 x2 x3 : Int32} {h : td_H} (hk0 : td_kd k0 = 0) (K : vp_in x2 4 ∧ (vp_in x1 12 ∧ (h ((k0 + 1) + 3) (ix x2)) = ms m ∧ m (ix x1) = false ∧ (∀ H26 : td_H, H26 = hu (meetH h ((k0 + 7)) (ix x1) m) ((k0 + 7) + 1) (ix x1) x3 → (∀ H36 : td_H, H36 = hu H26 ((k0 + 7) + 2) (ix x1) x3 → (∀ H48 : td_H, H48 = hu H36 k0 10 ((H36 k0 10) &&& ((jshl 1 x1) ^^^ (-1))) → (td_kd (ix (H48 k0 5)) = 5 ∧ (dP c (ix (H48 k0 5)) H48 ∧ ix x1 < c 1 0 ∧ (∀ H65 : td_H, H65 = takeH H48 ((k0 + 1)) x1 x2 (nI (szk (c 3 (ix x1)))) → (td_kd (ix (H65 k0 5)) = 5 ∧ (dP c (ix (H65 k0 5)) H65 ∧ (∀ H82 : td_H, H82 = hu H65 k0 11 ((H65 k0 11) + (nI (puk (c 3 (ix x1))))) → (((H82 k0 12) = 1 → (td_kd (ix (H82 k0 5)) = 5 ∧ (dP c (ix (H82 k0 5)) H82 ∧ (¬ (b2i (laden (c 3 (ix x1)) = true)) = 0 → (dLay (c 0 0) (c 0 1) ((k0 + 1)) H82 ∧ vp_in (H82 (ix (H82 k0 5) + 3) (ix x1)) 2 ∧ (H82 ((k0 + 1)) 7 = nI (σ 8 0) ∧ σ 8 0 < 12) ∧ ((nI (share (c 0 0) (ix x2) (ix (H82 (ix (H82 k0 5) + 3) (ix x1))) (σ 8 0))) = (H82 (k0 + 1) 6) → (td_kd (ix ((hu H82 (k0 + 7) 5 ((H82 (k0 + 7) 5) ||| (jshl 1 x1))) k0 5)) = 5 ∧ True))))))) ∧ (Post none (if (H82 k0 12) = 1 then if (b2i (laden (c 3 (ix x1)) = true)) = 0 then H82 else if (nI (share (c 0 0) (ix x2) (ix (H82 (ix (H82 k0 5) + 3) (ix x1))) (σ 8 0))) = (H82 (k0 + 1) 6) then (hu (hu H82 (k0 + 7) 5 ((H82 (k0 + 7) 5) ||| (jshl 1 x1))) k0 13 ((hu H82 (k0 + 7) 5 ((H82 (k0 + 7) 5) ||| (jshl 1 x1))) (ix ((hu H82 (k0 + 7) 5 ((H82 (k0 + 7) 5) ||| (jshl 1 x1))) k0 5) + 1) 7)) else H82 else H82 : td_H)))))))))))))) : td_J G (d + 1) mX0_enter Post 0 [(0, .ref k0), (1, .int x1), (2, .int x2), (3, .int x3)] [] h := by
  refine td_aload_n 0 dX0_enter_0 rfl ?_
  refine gf_X0_21 rfl hk0 dX0_enter_1 ?_
  refine td_iload_n 1 dX0_enter_4 rfl ?_
  refine td_aload_n 0 dX0_enter_5 rfl ?_
  refine gf_X0_12 rfl hk0 dX0_enter_6 ?_
  refine gf_X0_185 rfl (kd_0_0 hk0) dX0_enter_9 ?_
  refine td_iload_n 2 dX0_enter_12 rfl ?_
  obtain ⟨e13, K⟩ := K
  refine td_ialdc (j := (ix x2)) (kd_1_2 (kd_0_0 hk0)) (by decide) e13 rfl dX0_enter_13 ?_
  obtain ⟨e14_0, K⟩ := K
  obtain ⟨e14_1, K⟩ := K
  obtain ⟨e14_2, K⟩ := K
  refine cl_X0_188 rfl (kd_0_1 hk0) dX0_enter_14 (Nat.le_of_ble_eq_true rfl) (c_meet (kd_0_1 hk0) x1 (h ((k0 + 1) + 3) (ix x2)) m e14_0 e14_1 e14_2) (eV_k ?_)
  refine td_eqs (st2 := []) rfl ?_
  refine td_aload_n 0 dX0_enter_17 rfl ?_
  refine gf_X0_21 rfl hk0 dX0_enter_18 ?_
  refine gf_X0_191 rfl (kd_0_1 hk0) dX0_enter_21 ?_
  refine td_iload_n 1 dX0_enter_24 rfl ?_
  refine td_iload_n 3 dX0_enter_25 rfl ?_
  refine td_iastc (j := (ix x1)) (kd_2_0 (kd_0_1 hk0)) (by decide) e14_0 rfl dX0_enter_26 ?_
  obtain ⟨H26, E26⟩ : ∃ z : td_H, z = hu (meetH h ((k0 + 7)) (ix x1) m) ((k0 + 7) + 1) (ix x1) x3 := ⟨_, rfl⟩
  have K := K H26 E26
  refine td_eqh E26 ?_
  refine td_aload_n 0 dX0_enter_27 rfl ?_
  refine gf_X0_21 rfl hk0 dX0_enter_28 ?_
  refine gf_X0_194 rfl (kd_0_1 hk0) dX0_enter_31 ?_
  refine td_iload_n 1 dX0_enter_34 rfl ?_
  refine td_iload_n 3 dX0_enter_35 rfl ?_
  refine td_iastc (j := (ix x1)) (kd_2_1 (kd_0_1 hk0)) (by decide) e14_0 rfl dX0_enter_36 ?_
  obtain ⟨H36, E36⟩ : ∃ z : td_H, z = hu H26 ((k0 + 7) + 2) (ix x1) x3 := ⟨_, rfl⟩
  have K := K H36 E36
  refine td_eqh E36 ?_
  refine td_aload_n 0 dX0_enter_37 rfl ?_
  refine td_dup dX0_enter_38 rfl ?_
  refine gf_X0_55 rfl hk0 dX0_enter_39 ?_
  refine td_iconst (v := 1) dX0_enter_42 (by decide) ?_
  refine td_iload_n 1 dX0_enter_43 rfl ?_
  refine td_ishl dX0_enter_44 ?_
  refine td_iconst (v := (-1)) dX0_enter_45 (by decide) ?_
  refine td_ixor dX0_enter_46 ?_
  refine td_iand dX0_enter_47 ?_
  refine pf_X0_55 rfl hk0 dX0_enter_48 ?_
  obtain ⟨H48, E48⟩ : ∃ z : td_H, z = hu H36 k0 10 ((H36 k0 10) &&& ((jshl 1 x1) ^^^ (-1))) := ⟨_, rfl⟩
  have K := K H48 E48
  refine td_eqh E48 ?_
  refine td_aload_n 0 dX0_enter_51 rfl ?_
  refine gf_X0_12 rfl hk0 dX0_enter_52 ?_
  refine td_iload_n 1 dX0_enter_55 rfl ?_
  refine td_iload_n 2 dX0_enter_56 rfl ?_
  refine td_aload_n 0 dX0_enter_57 rfl ?_
  refine gf_X0_38 rfl hk0 dX0_enter_58 ?_
  obtain ⟨e58, K⟩ := K
  refine td_iload_n 1 dX0_enter_61 rfl ?_
  obtain ⟨e62_0, K⟩ := K
  obtain ⟨e62_2, K⟩ := K
  refine cl_X0_150 rfl e58 dX0_enter_62 (Nat.le_of_ble_eq_true rfl) (c_P_sizeOf e58 c x1 e62_0 e14_0 e62_2) (eR_k ?_)
  refine td_eqs (st2 := [.int (nI (szk (c 3 (ix x1)))), .int x2, .int x1, .ref (k0 + 1)]) rfl ?_
  refine cl_X0_197 rfl (kd_0_0 hk0) dX0_enter_65 (Nat.le_of_ble_eq_true rfl) (c_take (kd_0_0 hk0) x1 x2 (nI (szk (c 3 (ix x1)))) e14_0 e13) (eV_k ?_)
  refine td_eqs (st2 := []) rfl ?_
  obtain ⟨H65, E65⟩ : ∃ z : td_H, z = takeH H48 ((k0 + 1)) x1 x2 (nI (szk (c 3 (ix x1)))) := ⟨_, rfl⟩
  have K := K H65 E65
  refine td_eqh E65 ?_
  refine td_aload_n 0 dX0_enter_68 rfl ?_
  refine td_dup dX0_enter_69 rfl ?_
  refine gf_X0_58 rfl hk0 dX0_enter_70 ?_
  refine td_aload_n 0 dX0_enter_73 rfl ?_
  refine gf_X0_38 rfl hk0 dX0_enter_74 ?_
  obtain ⟨e74, K⟩ := K
  refine td_iload_n 1 dX0_enter_77 rfl ?_
  obtain ⟨e78_0, K⟩ := K
  refine cl_X0_156 rfl e74 dX0_enter_78 (Nat.le_of_ble_eq_true rfl) (c_P_pushOf e74 c x1 e78_0 e14_0 e62_2) (eR_k ?_)
  refine td_eqs (st2 := [.int (nI (puk (c 3 (ix x1)))), .int (H65 k0 11), .ref k0]) rfl ?_
  refine td_iadd dX0_enter_81 ?_
  refine pf_X0_58 rfl hk0 dX0_enter_82 ?_
  obtain ⟨H82, E82⟩ : ∃ z : td_H, z = hu H65 k0 11 ((H65 k0 11) + (nI (puk (c 3 (ix x1))))) := ⟨_, rfl⟩
  have K := K H82 E82
  refine td_eqh E82 ?_
  refine td_aload_n 0 dX0_enter_85 rfl ?_
  refine gf_X0_61 rfl hk0 dX0_enter_86 ?_
  refine td_iconst (v := 1) dX0_enter_89 (by decide) ?_
  obtain ⟨Ks90, K⟩ := K
  have KJ160 : td_J G (d + 1) mX0_enter Post 160 [(0, .ref k0), (1, .int x1), (2, .int x2), (3, .int x3)] [] (if (H82 k0 12) = 1 then if (b2i (laden (c 3 (ix x1)) = true)) = 0 then H82 else if (nI (share (c 0 0) (ix x2) (ix (H82 (ix (H82 k0 5) + 3) (ix x1))) (σ 8 0))) = (H82 (k0 + 1) 6) then (hu (hu H82 (k0 + 7) 5 ((H82 (k0 + 7) 5) ||| (jshl 1 x1))) k0 13 ((hu H82 (k0 + 7) 5 ((H82 (k0 + 7) 5) ||| (jshl 1 x1))) (ix ((hu H82 (k0 + 7) 5 ((H82 (k0 + 7) 5) ||| (jshl 1 x1))) k0 5) + 1) 7)) else H82 else H82 : td_H) := by
    exact td_return rfl dX0_enter_160 K
  refine td_icmp_ne (tgt := 160) dX0_enter_90 (by decide) (fun q90 => ?_) (fun q90 => ?_)
  · skip
    exact td_to KJ160 rfl rfl (by rw [show (if (H82 k0 12) = 1 then if (b2i (laden (c 3 (ix x1)) = true)) = 0 then H82 else if (nI (share (c 0 0) (ix x2) (ix (H82 (ix (H82 k0 5) + 3) (ix x1))) (σ 8 0))) = (H82 (k0 + 1) 6) then (hu (hu H82 (k0 + 7) 5 ((H82 (k0 + 7) 5) ||| (jshl 1 x1))) k0 13 ((hu H82 (k0 + 7) 5 ((H82 (k0 + 7) 5) ||| (jshl 1 x1))) (ix ((hu H82 (k0 + 7) 5 ((H82 (k0 + 7) 5) ||| (jshl 1 x1))) k0 5) + 1) 7)) else H82 else H82 : td_H) = _ from if_neg q90])
  · have K := Ks90 q90
    refine td_aload_n 0 dX0_enter_93 rfl ?_
    refine gf_X0_38 rfl hk0 dX0_enter_94 ?_
    obtain ⟨e94, K⟩ := K
    refine td_iload_n 1 dX0_enter_97 rfl ?_
    obtain ⟨e98_0, K⟩ := K
    refine cl_X0_169 rfl e94 dX0_enter_98 (Nat.le_of_ble_eq_true rfl) (c_P_isLaden e94 c x1 e98_0 e14_0 e62_2) (eR_k ?_)
    refine td_eqs (st2 := [.int (b2i (laden (c 3 (ix x1)) = true))]) rfl ?_
    refine td_if_eq (tgt := 160) dX0_enter_101 (by decide) (fun q101 => ?_) (fun q101 => ?_)
    · skip
      exact td_to KJ160 rfl rfl (by rw [show (if (H82 k0 12) = 1 then if (b2i (laden (c 3 (ix x1)) = true)) = 0 then H82 else if (nI (share (c 0 0) (ix x2) (ix (H82 (ix (H82 k0 5) + 3) (ix x1))) (σ 8 0))) = (H82 (k0 + 1) 6) then (hu (hu H82 (k0 + 7) 5 ((H82 (k0 + 7) 5) ||| (jshl 1 x1))) k0 13 ((hu H82 (k0 + 7) 5 ((H82 (k0 + 7) 5) ||| (jshl 1 x1))) (ix ((hu H82 (k0 + 7) 5 ((H82 (k0 + 7) 5) ||| (jshl 1 x1))) k0 5) + 1) 7)) else H82 else H82 : td_H) = _ from (if_pos q90).trans (if_pos q101)])
    · have K := K q101
      refine td_aload_n 0 dX0_enter_104 rfl ?_
      refine gf_X0_12 rfl hk0 dX0_enter_105 ?_
      refine td_iload_n 2 dX0_enter_108 rfl ?_
      refine td_aload_n 0 dX0_enter_109 rfl ?_
      refine gf_X0_38 rfl hk0 dX0_enter_110 ?_
      refine gf_X0_91 rfl e94 dX0_enter_113 ?_
      refine td_iload_n 1 dX0_enter_116 rfl ?_
      refine td_ialdc (j := (ix x1)) (kd_5_2 e94) (by decide) e14_0 rfl dX0_enter_117 ?_
      obtain ⟨e118_0, K⟩ := K
      obtain ⟨e118_2, K⟩ := K
      obtain ⟨e118_3, K⟩ := K
      refine cl_X0_179 rfl (kd_0_0 hk0) dX0_enter_118 (Nat.le_of_ble_eq_true rfl) (c_shareAt (kd_0_0 hk0) (c 0 0) (c 0 1) (σ 8 0) x2 (H82 (ix (H82 k0 5) + 3) (ix x1)) e118_0 e13 e118_2 e118_3) (eR_k ?_)
      refine td_eqs (st2 := [.int (nI (share (c 0 0) (ix x2) (ix (H82 (ix (H82 k0 5) + 3) (ix x1))) (σ 8 0)))]) rfl ?_
      refine td_aload_n 0 dX0_enter_121 rfl ?_
      refine gf_X0_12 rfl hk0 dX0_enter_122 ?_
      refine gf_X0_173 rfl (kd_0_0 hk0) dX0_enter_125 ?_
      refine td_icmp_ne (tgt := 160) dX0_enter_128 (by decide) (fun q128 => ?_) (fun q128 => ?_)
      · skip
        exact td_to KJ160 rfl rfl (by rw [show (if (H82 k0 12) = 1 then if (b2i (laden (c 3 (ix x1)) = true)) = 0 then H82 else if (nI (share (c 0 0) (ix x2) (ix (H82 (ix (H82 k0 5) + 3) (ix x1))) (σ 8 0))) = (H82 (k0 + 1) 6) then (hu (hu H82 (k0 + 7) 5 ((H82 (k0 + 7) 5) ||| (jshl 1 x1))) k0 13 ((hu H82 (k0 + 7) 5 ((H82 (k0 + 7) 5) ||| (jshl 1 x1))) (ix ((hu H82 (k0 + 7) 5 ((H82 (k0 + 7) 5) ||| (jshl 1 x1))) k0 5) + 1) 7)) else H82 else H82 : td_H) = _ from (if_pos q90).trans ((if_neg q101).trans (if_neg q128))])
      · have K := K q128
        refine td_aload_n 0 dX0_enter_131 rfl ?_
        refine gf_X0_21 rfl hk0 dX0_enter_132 ?_
        refine td_dup dX0_enter_135 rfl ?_
        refine gf_X0_200 rfl (kd_0_1 hk0) dX0_enter_136 ?_
        refine td_iconst (v := 1) dX0_enter_139 (by decide) ?_
        refine td_iload_n 1 dX0_enter_140 rfl ?_
        refine td_ishl dX0_enter_141 ?_
        refine td_ior dX0_enter_142 ?_
        refine pf_X0_200 rfl (kd_0_1 hk0) dX0_enter_143 ?_
        refine td_aload_n 0 dX0_enter_146 rfl ?_
        refine td_aload_n 0 dX0_enter_147 rfl ?_
        refine gf_X0_38 rfl hk0 dX0_enter_148 ?_
        obtain ⟨e148, K⟩ := K
        refine gf_X0_111 rfl e148 dX0_enter_151 ?_
        refine td_bipush (v := 7) dX0_enter_154 (by decide) ?_
        refine td_ialdc (j := 7) (kd_5_0 e148) (by decide) (by unfold vp_in; decide) (by decide) dX0_enter_156 ?_
        refine pf_X0_64 rfl hk0 dX0_enter_157 ?_
        exact td_to KJ160 rfl rfl (by rw [show (if (H82 k0 12) = 1 then if (b2i (laden (c 3 (ix x1)) = true)) = 0 then H82 else if (nI (share (c 0 0) (ix x2) (ix (H82 (ix (H82 k0 5) + 3) (ix x1))) (σ 8 0))) = (H82 (k0 + 1) 6) then (hu (hu H82 (k0 + 7) 5 ((H82 (k0 + 7) 5) ||| (jshl 1 x1))) k0 13 ((hu H82 (k0 + 7) 5 ((H82 (k0 + 7) 5) ||| (jshl 1 x1))) (ix ((hu H82 (k0 + 7) 5 ((H82 (k0 + 7) 5) ||| (jshl 1 x1))) k0 5) + 1) 7)) else H82 else H82 : td_H) = _ from (if_pos q90).trans ((if_neg q101).trans (if_pos q128))])
theorem sEn_p (c : nH) (t : Nat) (σ : nH) (p i k : Nat) : sEn c t σ p i k 0 p = 2 ∧ sEn c t σ p i k 1 p = i ∧ sEn c t σ p i k 2 p = t ∧ sEn c t σ p i k 3 p = σ 3 p ∧ sEn c t σ p i k 4 p = t - c 4 p ∧ sEn c t σ p i k 5 p = σ 5 p ∧ sEn c t σ p i k 6 p = 0 := by
  refine ⟨by simp [sEn], by simp [sEn], by simp [sEn], ?_, by simp [sEn], ?_, by simp [sEn]⟩
  · unfold sEn; rw [if_neg (by omega), if_neg (by omega), if_neg (by omega), if_neg (by omega), if_neg (by omega), if_neg (by omega), if_neg (by omega)]
  · unfold sEn; rw [if_neg (by omega), if_neg (by omega), if_neg (by omega), if_neg (by omega), if_neg (by omega), if_neg (by omega), if_neg (by omega)]
theorem sEn_r5 (c : nH) (t : Nat) (σ : nH) (p i k b : Nat) (a : Nat) (ha : a = 3 ∨ a = 5) : sEn c t σ p i k a b = σ a b := by
  by_cases e : b = p
  · subst e
    rcases ha with rfl | rfl
    · exact (sEn_p c t σ b i k).2.2.2.1
    · exact (sEn_p c t σ b i k).2.2.2.2.2.1
  · exact sEn_o c t σ p i k a b (by omega) e
theorem used_en (c σ : nH) (t i j k : Nat) {p : Nat} (hp : p < c 1 0) (h1 : σ 0 p = 1) : used c (sEn c t σ p i k) j = used c σ j + (if i = j then szk (c 3 p) else 0) := by
  unfold used
  have e : fb_sm (fun q => if inP c (sEn c t σ p i k) j q then szk (c 3 q) else 0) (c 1 0) = fb_sm (fun q => if q = p then (if i = j then szk (c 3 p) else 0) else (if inP c σ j q then szk (c 3 q) else 0)) (c 1 0) := fb_sm_cong (fun q hq => by
    by_cases z : q = p
    · subst z
      rw [if_pos rfl]
      unfold inP
      rw [(sEn_p c t σ q i k).1, (sEn_p c t σ q i k).2.1]
      by_cases y : i = j <;> simp [y, hq]
    · rw [if_neg z, inP_row c σ (sEn c t σ p i k) j q (sEn_o _ _ _ _ _ _ _ _ (by decide) z) (sEn_o _ _ _ _ _ _ _ _ (by decide) z)])
  rw [e]
  have z := fb_sm_upd (fun q => if inP c σ j q then szk (c 3 q) else 0) (if i = j then szk (c 3 p) else 0) hp
  have f0 : inP c σ j p = false := by unfold inP; simp [h1]
  rw [f0] at z
  simpa using z
theorem push_en (c σ : nH) (t i k : Nat) {p : Nat} (hp : p < c 1 0) (h1 : σ 0 p = 1) : pushS c (sEn c t σ p i k) = pushS c σ + puk (c 3 p) := by
  unfold pushS
  have e : fb_sm (fun q => if sEn c t σ p i k 0 q = 2 then puk (c 3 q) else 0) (c 1 0) = fb_sm (fun q => if q = p then puk (c 3 p) else (if σ 0 q = 2 then puk (c 3 q) else 0)) (c 1 0) := fb_sm_cong (fun q _ => by
    by_cases z : q = p
    · subst z
      rw [if_pos rfl, (sEn_p c t σ q i k).1, if_pos rfl]
    · rw [if_neg z, sEn_o _ _ _ _ _ _ _ _ (by decide) z])
  rw [e]
  have z := fb_sm_upd (fun q => if σ 0 q = 2 then puk (c 3 q) else 0) (puk (c 3 p)) hp
  simp only [h1] at z
  simpa using z
def entH (h : td_H) (k p i t s u : Nat) (m : Nat → Bool) : td_H := fun a b =>
  if a = k ∧ b = 11 then h k 11 + nI u else if a = k + 1 ∧ b = 8 then h (k + 1) 8 ||| jshl 1 (nI p) else if a = k + 6 ∧ b = p then nI i else if a = k + 5 ∧ b = i then h (k + 5) i - nI s else if a = k + 4 ∧ b = i then h (k + 4) i ||| jshl 1 (nI p)
  else if a = k ∧ b = 10 then h k 10 &&& (jshl 1 (nI p) ^^^ (-1)) else if a = k + 9 ∧ b = p then nI t else if a = k + 8 ∧ b = p then nI t else meetH h (k + 7) p m a b
theorem dV.en {c σ : nH} {k : Nat} {h : td_H} (x : dV c σ k h) {p i t : Nat} (hp : p < c 1 0) (hn : c 1 0 ≤ 12) (h1 : σ 0 p = 1) (hi : i < 4) (hu : used c σ i + szk (c 3 p) ≤ c 0 2) (hct : c 4 p ≤ t) : dV c (sEn c t σ p i (c 1 0)) k (entH h k p i t (szk (c 3 p)) (puk (c 3 p)) (inP c σ i)) ∧ FrD k h (entH h k p i t (szk (c 3 p)) (puk (c 3 p)) (inP c σ i)) := by
  obtain ⟨⟨a1, a2, a3, a4, a5⟩, ⟨w, w1, w2⟩, ⟨d1, d2, d3, d4⟩, hP, hO, f1, f2, hF⟩ := x
  have mo : ∀ a b, a ≠ k + 11 → meetH h (k + 7) p (inP c σ i) a b = h a b := fun a b n => by unfold meetH; rw [if_neg (by omega)]
  have ap : ∀ a b, entH h k p i t (szk (c 3 p)) (puk (c 3 p)) (inP c σ i) a b = if a = k ∧ b = 11 then h k 11 + nI (puk (c 3 p)) else if a = k + 1 ∧ b = 8 then h (k + 1) 8 ||| jshl 1 (nI p) else if a = k + 6 ∧ b = p then nI i else if a = k + 5 ∧ b = i then h (k + 5) i - nI (szk (c 3 p)) else if a = k + 4 ∧ b = i then h (k + 4) i ||| jshl 1 (nI p) else if a = k ∧ b = 10 then h k 10 &&& (jshl 1 (nI p) ^^^ (-1)) else if a = k + 9 ∧ b = p then nI t else if a = k + 8 ∧ b = p then nI t else meetH h (k + 7) p (inP c σ i) a b := fun a b => rfl
  obtain ⟨m0, m1, m2, m3, m4, m5, m6⟩ := sEn_p c t σ p i (c 1 0)
  have e8 := sEn_8 c t σ p i (c 1 0)
  have eo : ∀ a q, a ≤ 6 → q ≠ p → sEn c t σ p i (c 1 0) a q = σ a q := fun a q => sEn_o c t σ p i (c 1 0) a q
  have iS : ∀ s q, inSt c (sEn c t σ p i (c 1 0)) s q = if q = p then decide (s = 2) else inSt c σ s q := fun s q => by
    unfold inSt
    by_cases z : q = p
    · subst z
      rw [m0, if_pos rfl]
      by_cases y : s = 2
      · simp [hp, y]
      · have : ¬ 2 = s := fun w => y w.symm
        simp [y, this]
    · rw [if_neg z, eo 0 q (by decide) z]
  have iP : ∀ j q, inP c (sEn c t σ p i (c 1 0)) j q = if q = p then decide (i = j) else inP c σ j q := fun j q => by
    unfold inP
    by_cases z : q = p
    · subst z
      rw [m0, m1, if_pos rfl]
      simp [hp]
    · rw [if_neg z, eo 0 q (by decide) z, eo 1 q (by decide) z]
  have pin : ∀ j, inP c σ j p = false := fun j => by unfold inP; simp [h1]
  refine ⟨⟨⟨?_, ?_, ?_, ?_, ?_⟩, ⟨w, ?_, fun q hq => ?_⟩, ⟨?_, ?_, ?_, ?_⟩, fun j hj => ⟨?_, ?_⟩, fun q hq hq2 => ?_, ?_, ?_, fun q hq => ⟨?_, ?_, ?_, ?_⟩⟩, fun a b nd => ?_⟩
  · rw [ap, if_neg (by omega), if_neg (by omega), if_neg (by omega), if_neg (by omega), if_neg (by omega), if_pos ⟨rfl, rfl⟩, a1, ms_one (by omega), ms_andn]
    refine ms_ext (fun q _ => ?_)
    rw [iS]
    by_cases z : q = p
    · simp [z]
    · simp [z]
  · rw [ap, if_pos ⟨rfl, rfl⟩, a2, nI_add, push_en c σ t i (c 1 0) hp h1]
  · rw [ap, if_neg (by omega), if_neg (by omega), if_neg (by omega), if_neg (by omega), if_neg (by omega), if_neg (by omega), if_neg (by omega), if_neg (by omega), mo _ _ (by omega), a3, e8]
  · rw [ap, if_neg (by omega), if_neg (by omega), if_neg (by omega), if_neg (by omega), if_neg (by omega), if_neg (by omega), if_neg (by omega), if_neg (by omega), mo _ _ (by omega), a4, e8]
  · rw [ap, if_neg (by omega), if_neg (by omega), if_neg (by omega), if_neg (by omega), if_neg (by omega), if_neg (by omega), if_neg (by omega), if_neg (by omega), mo _ _ (by omega), a5, e8]
  · rw [ap, if_neg (by omega), if_neg (by omega), if_neg (by omega), if_neg (by omega), if_neg (by omega), if_neg (by omega), if_neg (by omega), if_neg (by omega), mo _ _ (by omega), w1]
  · by_cases z : q = p
    · subst z
      rw [m0, m6]
      have hf : ¬ w q = true := fun y => by have := (w2 q hq).1 y; omega
      exact ⟨fun _ => Nat.le_refl 2, fun _ _ => ⟨fun y => absurd y hf, fun y => absurd y (by decide)⟩⟩
    · rw [eo 0 q (by decide) z, eo 6 q (by decide) z]
      exact w2 q hq
  · rw [ap, if_neg (by omega), if_neg (by omega), if_neg (by omega), if_neg (by omega), if_neg (by omega), if_neg (by omega), if_neg (by omega), if_neg (by omega), mo _ _ (by omega), d1, e8]
  · rw [ap, if_neg (by omega), if_pos ⟨rfl, rfl⟩, d2, ms_one (by omega), ms_or]
    refine ms_ext (fun q _ => ?_)
    rw [iS]
    by_cases z : q = p
    · simp [z]
    · simp [z]
  · rw [ap, if_neg (by omega), if_neg (by omega), if_neg (by omega), if_neg (by omega), if_neg (by omega), if_neg (by omega), if_neg (by omega), if_neg (by omega), mo _ _ (by omega), d3, e8]
  · rw [ap, if_neg (by omega), if_neg (by omega), if_neg (by omega), if_neg (by omega), if_neg (by omega), if_neg (by omega), if_neg (by omega), if_neg (by omega), mo _ _ (by omega), d4, e8]
  · rw [ap, if_neg (by omega), if_neg (by omega), if_neg (by omega), if_neg (by omega)]
    by_cases y : j = i
    · subst y
      rw [if_pos ⟨rfl, rfl⟩, (hP j hj).1, ms_one (by omega), ms_or]
      refine ms_ext (fun q _ => ?_)
      rw [iP]
      by_cases z : q = p
      · simp [z]
      · simp [z]
    · rw [if_neg (fun z => y z.2), if_neg (by omega), if_neg (by omega), if_neg (by omega), mo _ _ (by omega), (hP j hj).1]
      refine ms_ext (fun q _ => ?_)
      rw [iP]
      by_cases z : q = p
      · have : ¬ i = j := fun w => y w.symm
        rw [if_pos z, z, pin]
        simp [this]
      · rw [if_neg z]
  · rw [ap, if_neg (by omega), if_neg (by omega), if_neg (by omega), used_en c σ t i j (c 1 0) hp h1]
    by_cases y : j = i
    · subst y
      rw [if_pos ⟨rfl, rfl⟩, if_pos rfl, (hP j hj).2, pk_sub (by omega)]
      congr 1
      omega
    · rw [if_neg (fun z => y z.2), if_neg (by omega), if_neg (by omega), if_neg (by omega), if_neg (by omega), mo _ _ (by omega), (hP j hj).2, if_neg (fun z => y z.symm), Nat.add_zero]
  · rw [ap, if_neg (by omega), if_neg (by omega)]
    by_cases z : q = p
    · rw [if_pos ⟨rfl, z⟩, z, m1]
    · rw [eo 0 q (by decide) z] at hq2
      rw [if_neg (fun y => z y.2), if_neg (by omega), if_neg (by omega), if_neg (by omega), if_neg (by omega), if_neg (by omega), mo _ _ (by omega), hO q hq hq2, eo 1 q (by decide) z]
  · rw [ap, if_neg (by omega), if_neg (by omega), if_neg (by omega), if_neg (by omega), if_neg (by omega), if_neg (by omega), if_neg (by omega), if_neg (by omega), mo _ _ (by omega), f1]
    refine ms_ext (fun q _ => ?_)
    rw [iS]
    by_cases z : q = p
    · rw [if_pos z, z]
      unfold inSt
      simp [h1]
    · rw [if_neg z]
  · rw [ap, if_neg (by omega), if_neg (by omega), if_neg (by omega), if_neg (by omega), if_neg (by omega), if_neg (by omega), if_neg (by omega), if_neg (by omega), mo _ _ (by omega), f2]
    exact ms_ext (fun q _ => by rw [sEn_r5 _ _ _ _ _ _ _ 5 (Or.inr rfl)])
  · rw [ap, if_neg (by omega), if_neg (by omega), if_neg (by omega), if_neg (by omega), if_neg (by omega), if_neg (by omega), if_neg (by omega)]
    by_cases z : q = p
    · rw [if_pos ⟨rfl, z⟩, z, m2]
    · rw [if_neg (fun y => z y.2), mo _ _ (by omega), (hF q hq).1, eo 2 q (by decide) z]
  · rw [ap, if_neg (by omega), if_neg (by omega), if_neg (by omega), if_neg (by omega), if_neg (by omega), if_neg (by omega)]
    unfold qE
    by_cases z : q = p
    · rw [if_pos ⟨rfl, z⟩, z, m0, m4, if_neg (by decide)]
      congr 1
      omega
    · rw [if_neg (fun y => z y.2), if_neg (by omega), mo _ _ (by omega), (hF q hq).2.1, eo 0 q (by decide) z, eo 4 q (by decide) z]
      rfl
  · rw [ap, if_neg (by omega), if_neg (by omega), if_neg (by omega), if_neg (by omega), if_neg (by omega), if_neg (by omega), if_neg (by omega), if_neg (by omega), mo _ _ (by omega), (hF q hq).2.2.1, sEn_r5 _ _ _ _ _ _ _ 3 (Or.inl rfl)]
  · rw [ap, if_neg (by omega), if_neg (by omega), if_neg (by omega), if_neg (by omega), if_neg (by omega), if_neg (by omega), if_neg (by omega), if_neg (by omega)]
    unfold meetH
    rw [if_pos ⟨rfl, hq⟩, (hF p (by omega)).2.2.2, (hF q hq).2.2.2]
    by_cases z : q = p
    · subst z
      rw [if_pos rfl, ms_or]
      refine ms_ext (fun j _ => ?_)
      rw [sEn_20]
      by_cases y : inP c σ i j = true
      · simp [y]
      · simp [y, pin]
    · rw [if_neg z]
      by_cases y : inP c σ i q = true
      · have qn : q < c 1 0 := by unfold inP at y; simp at y; exact y.1
        rw [if_pos y, ms_one (by omega), ms_or]
        refine ms_ext (fun j _ => ?_)
        rw [sEn_20, if_neg (fun v => z v.1)]
        by_cases v : j = p
        · simp [v, y, qn]
        · simp [v]
      · rw [if_neg y]
        refine ms_ext (fun j _ => ?_)
        rw [sEn_20, if_neg (fun v => z v.1), if_neg (fun v => y v.2.1)]
  · unfold dynP at nd
    rw [ap, if_neg (by omega), if_neg (by omega), if_neg (by omega), if_neg (by omega), if_neg (by omega), if_neg (by omega), if_neg (by omega), if_neg (by omega), mo _ _ (by omega)]
theorem c_C_enter {G : td_G} {d : Nat} {h : td_H} {k q : Nat} {c σ : nH} {Q : Nat → Nat} (x1 x2 x3 : Int32) (hQ : dQ c Q k q h) (hV : dV c σ k h) (ok : sOK c σ) (h1 : vp_in x1 12) (h1n : ix x1 < c 1 0) (h1s : σ 0 (ix x1) = 1) (h2 : vp_in x2 4) (hus : used c σ (ix x2) + szk (c 3 (ix x1)) ≤ c 0 2) (h3 : vp_in x3 120) (hcm : c 4 (ix x1) ≤ ix x3) : td_C G (d + 1) mX0_enter [.ref k, .int x1, .int x2, .int x3] h (fun r h' => r = none ∧ FrD k h h' ∧ dV c (sEnter c (ix x3) σ (ix x1) (ix x2)) k h') := by
  obtain ⟨p, hp12, rfl⟩ := vp_in_of h1 (by decide)
  obtain ⟨i, hi4, rfl⟩ := vp_in_of h2 (by decide)
  obtain ⟨t, ht, rfl⟩ := vp_in_of h3 (by decide)
  have ep : ix (nI p) = p := ixn (by omega)
  have ei : ix (nI i) = i := ixn (by omega)
  have et : ix (nI t) = t := ixn (by omega)
  rw [ep] at h1n h1s hcm hus
  rw [ei] at hus
  rw [et] at hcm
  rw [ep, ei, et]
  have hk := hQ.1
  have hwf := hQ.2.2.2.2.1.1
  have hn := hwf.n
  have hpk := hwf.p h1n
  have hk107 := td_kd_lt hk (by decide)
  obtain ⟨hVe, hFe⟩ := hV.en (t := t) h1n hn h1s hi4 hus hcm
  have fq : ∀ H, FrD k h H → ix (H k 5) = q ∧ td_kd (ix (H k 5)) = 5 ∧ dP c (ix (H k 5)) H := fun H hf => by
    have y := hf.Q hQ
    have e : ix (H k 5) = q := by rw [y.2.2.2.1]; exact ixn (by have := y.2.2.1; omega)
    exact ⟨e, by rw [e]; exact y.2.1, by rw [e]; exact y.2.2.2.2.1⟩
  have pin : inP c σ i p = false := by unfold inP; simp [h1s]
  have frm : FrD k h (meetH h (k + 7) p (inP c σ i)) := fun a b nd => by
    unfold dynP at nd
    unfold meetH
    rw [if_neg (by omega)]
  refine td_entry rfl (Nat.le_of_ble_eq_true rfl) rfl (gX0_enter_0 (c := c) (σ := σ) (m := inP c σ i) hk ?_)
  rw [ep, ei]
  refine ⟨h2, h1, by rw [show k + 1 + 3 = k + 4 from rfl]; exact (hV.2.2.2.1 i hi4).1, pin, fun H26 E26 H36 E36 H48 E48 => ?_⟩
  have F26 : FrD k h H26 := by rw [E26]; exact frm.put (by unfold dynP; omega) _
  have F36 : FrD k h H36 := by rw [E36]; exact F26.put (by unfold dynP; omega) _
  have F48 : FrD k h H48 := by rw [E48]; exact F36.put (by unfold dynP; omega) _
  obtain ⟨-, g1, g2⟩ := fq H48 F48
  refine ⟨g1, g2, h1n, fun H65 E65 => ?_⟩
  have F65 : FrD k h H65 := by
    rw [E65]
    unfold takeH
    rw [ep, ei]
    exact (((F48.put (by unfold dynP; omega) _).put (by unfold dynP; omega) _).put (by unfold dynP; omega) _).put (by unfold dynP; omega) _
  obtain ⟨-, g3, g4⟩ := fq H65 F65
  refine ⟨g3, g4, fun H82 E82 => ?_⟩
  have eH : H82 = entH h k p i t (szk (c 3 p)) (puk (c 3 p)) (inP c σ i) := by
    rw [E82, E65, E48, E36, E26]
    funext a b
    unfold takeH entH
    rw [ep, ei]
    simp only [hu_app, Nat.add_assoc]
    have mo : ∀ a b, a ≠ k + 11 → meetH h (k + 7) p (inP c σ i) a b = h a b := fun a b n => by unfold meetH; rw [if_neg (by omega)]
    have r1 : meetH h (k + 7) p (inP c σ i) k 10 = h k 10 := mo _ _ (by omega)
    have r2 : meetH h (k + 7) p (inP c σ i) (k + 4) i = h (k + 4) i := mo _ _ (by omega)
    have r3 : meetH h (k + 7) p (inP c σ i) (k + 5) i = h (k + 5) i := mo _ _ (by omega)
    have r4 : meetH h (k + 7) p (inP c σ i) (k + 1) 8 = h (k + 1) 8 := mo _ _ (by omega)
    have r5 : meetH h (k + 7) p (inP c σ i) k 11 = h k 11 := mo _ _ (by omega)
    simp [r1, r2, r3, r4, r5]
  subst eH
  obtain ⟨g5, g6, g7⟩ := fq _ hFe
  have y := hFe.Q hQ
  have e12 := hVe.1.2.2.1
  rw [sEn_8] at e12
  have e7 := hVe.2.2.1.1
  rw [sEn_8] at e7
  have eside : entH h k p i t (szk (c 3 p)) (puk (c 3 p)) (inP c σ i) (ix (entH h k p i t (szk (c 3 p)) (puk (c 3 p)) (inP c σ i) k 5) + 3) p = nI (c 2 p) := by
    rw [g5]
    exact (y.2.2.2.2.1.2.2.2 p h1n).2.1
  have eo : entH h k p i t (szk (c 3 p)) (puk (c 3 p)) (inP c σ i) (k + 1) 6 = nI (c 0 1) := y.2.2.2.2.2.1.2.2.2.1
  have es : ix (nI (c 2 p)) = c 2 p := ixn (by omega)
  have F99 : FrD k h (hu (entH h k p i t (szk (c 3 p)) (puk (c 3 p)) (inP c σ i)) (k + 7) 5 ((entH h k p i t (szk (c 3 p)) (puk (c 3 p)) (inP c σ i)) (k + 7) 5 ||| jshl 1 (nI p))) := hFe.put (by unfold dynP; omega) _
  obtain ⟨k5, k6, k7⟩ := fq _ F99
  refine ⟨fun _ => ⟨g6, g7, fun _ => ⟨y.2.2.2.2.2.1, by rw [eside]; exact vp_in_nI hpk.1 (by decide), ⟨e7, ok.1⟩, fun _ => ⟨k6, trivial⟩⟩⟩, rfl, ?_⟩
  have e77 : (hu (entH h k p i t (szk (c 3 p)) (puk (c 3 p)) (inP c σ i)) (k + 7) 5 ((entH h k p i t (szk (c 3 p)) (puk (c 3 p)) (inP c σ i)) (k + 7) 5 ||| jshl 1 (nI p))) (ix ((hu (entH h k p i t (szk (c 3 p)) (puk (c 3 p)) (inP c σ i)) (k + 7) 5 ((entH h k p i t (szk (c 3 p)) (puk (c 3 p)) (inP c σ i)) (k + 7) 5 ||| jshl 1 (nI p))) k 5) + 1) 7 = nI (c 0 7) := k7.2.1 7 (by decide)
  have hw : 12 / c 0 0 ≤ 4 := by
    have := hwf.1
    rcases (by omega : c 0 0 = 3 ∨ c 0 0 = 4) with z | z <;> rw [z] <;> decide
  have s1 := share_le (c 0 0) i (c 2 p) (σ 8 0)
  have hO := hwf.2.1
  have hsp := ok.2.1
  rw [e77, e12, eside, es, eo, b2i_ite, ite_c (p := nI (σ 8 1) = 1) (q := σ 8 1 = 1) (nI_eq (b := 1) (by omega) (by decide)) _ _, ite_c (p := nI (share (c 0 0) i (c 2 p) (σ 8 0)) = nI (c 0 1)) (q := share (c 0 0) i (c 2 p) (σ 8 0) = c 0 1) (nI_eq (by omega) (by omega)) _ _, sEnter_eq]
  generalize entH h k p i t (szk (c 3 p)) (puk (c 3 p)) (inP c σ i) = H at hVe hFe
  refine byX (fun X => FrD k h X ∧ dV c (if caughtB c σ p i = true then nu (nu (sEn c t σ p i (c 1 0)) 5 p 1) 8 2 (c 0 7) else sEn c t σ p i (c 1 0)) k X) (if caughtB c σ p i = true then hu (hu H (k + 7) 5 (H (k + 7) 5 ||| jshl 1 (nI p))) k 13 (nI (c 0 7)) else H) ?_ ?_
  · unfold caughtB
    by_cases y1 : σ 8 1 = 1 <;> by_cases y2 : laden (c 3 p) = true <;> by_cases y3 : share (c 0 0) i (c 2 p) (σ 8 0) = c 0 1 <;> simp [y1, y2, y3]
  · by_cases yc : caughtB c σ p i = true
    · rw [if_pos yc, if_pos yc]
      refine ⟨(hFe.put (by unfold dynP; omega) _).put (by unfold dynP; omega) _, ?_⟩
      obtain ⟨⟨a1, a2, a3, a4, a5⟩, ⟨w, w1, w2⟩, ⟨d1, d2, d3, d4⟩, hP, hO', f1, f2, hF⟩ := hVe
      -- caught first, then stuck
      have hC : dV c (nu (sEn c t σ p i (c 1 0)) 5 p 1) k (hu H (k + 7) 5 (H (k + 7) 5 ||| jshl 1 (nI p))) := by
        have r : ∀ a b, ¬ (a = k + 7 ∧ b = 5) → hu H (k + 7) 5 (H (k + 7) 5 ||| jshl 1 (nI p)) a b = H a b := fun a b n => by rw [hu_app, if_neg n]
        have e : ∀ a b, a ≠ 5 → nu (sEn c t σ p i (c 1 0)) 5 p 1 a b = sEn c t σ p i (c 1 0) a b := fun a b n => by rw [nu_app, if_neg (fun z => n z.1)]
        have iP' : ∀ j, inP c (nu (sEn c t σ p i (c 1 0)) 5 p 1) j = inP c (sEn c t σ p i (c 1 0)) j := fun j => funext fun v => inP_row _ _ _ _ _ (e 0 v (by decide)) (e 1 v (by decide))
        have iS' : ∀ s, inSt c (nu (sEn c t σ p i (c 1 0)) 5 p 1) s = inSt c (sEn c t σ p i (c 1 0)) s := fun s => funext fun v => inSt_row _ _ _ _ _ (e 0 v (by decide))
        have iu : ∀ j, used c (nu (sEn c t σ p i (c 1 0)) 5 p 1) j = used c (sEn c t σ p i (c 1 0)) j := fun j => by unfold used; rw [iP']
        have ip : pushS c (nu (sEn c t σ p i (c 1 0)) 5 p 1) = pushS c (sEn c t σ p i (c 1 0)) := by
          unfold pushS
          exact fb_sm_cong (fun v _ => by rw [e 0 v (by decide)])
        refine ⟨⟨by rw [r _ _ (by omega), iS']; exact a1, by rw [r _ _ (by omega), ip]; exact a2, by rw [r _ _ (by omega), e 8 1 (by decide)]; exact a3, by rw [r _ _ (by omega), e 8 2 (by decide)]; exact a4, by rw [r _ _ (by omega), e 8 5 (by decide)]; exact a5⟩, ⟨w, by rw [r _ _ (by omega)]; exact w1, fun v hv => by rw [e 0 v (by decide), e 6 v (by decide)]; exact w2 v hv⟩, ⟨by rw [r _ _ (by omega), e 8 0 (by decide)]; exact d1, by rw [r _ _ (by omega), iS']; exact d2, by rw [r _ _ (by omega), e 8 4 (by decide)]; exact d3, by rw [r _ _ (by omega), e 8 3 (by decide)]; exact d4⟩, fun j hj => ⟨by rw [r _ _ (by omega), iP']; exact (hP j hj).1, by rw [r _ _ (by omega), iu]; exact (hP j hj).2⟩, fun v hv h2' => ?_, ?_, ?_, fun v hv => ⟨by rw [r _ _ (by omega), e 2 v (by decide)]; exact (hF v hv).1, ?_, by rw [r _ _ (by omega), e 3 v (by decide)]; exact (hF v hv).2.2.1, ?_⟩⟩
        · rw [e 0 v (by decide)] at h2'
          rw [r _ _ (by omega), e 1 v (by decide)]
          exact hO' v hv h2'
        · rw [r _ _ (by omega), iS']; exact f1
        · rw [hu_app, if_pos ⟨rfl, rfl⟩, f2, ms_one hp12, ms_or]
          refine ms_ext (fun v _ => ?_)
          rw [nu_app]
          by_cases z : v = p
          · subst z; simp [h1n]
          · simp [z]
        · rw [r _ _ (by omega), (hF v hv).2.1]
          unfold qE
          rw [e 0 v (by decide), e 4 v (by decide)]
        · rw [r _ _ (by omega), (hF v hv).2.2.2]
          exact ms_ext (fun j _ => by rw [e (20 + v) j (by omega)])
      refine hC.sc (fun a b ha => by rw [nu_app, if_neg (fun z => ha z.1)]) (fun a b n => by rw [hu_app, if_neg (by omega)]) ?_ ?_ ?_ ?_ ?_ ?_
      · rw [hu_app, if_neg (by omega), nu_app, if_neg (by omega)]; exact hC.2.2.1.1
      · rw [hu_app, if_neg (by omega), nu_app, if_neg (by omega)]; exact hC.1.2.2.1
      · rw [hu_app, if_pos ⟨rfl, rfl⟩, nu_app, if_pos ⟨rfl, rfl⟩]
      · rw [hu_app, if_neg (by omega), nu_app, if_neg (by omega)]; exact hC.2.2.1.2.2.2
      · rw [hu_app, if_neg (by omega), nu_app, if_neg (by omega)]; exact hC.2.2.1.2.2.1
      · rw [hu_app, if_neg (by omega), nu_app, if_neg (by omega)]; exact hC.1.2.2.2.2
    · rw [if_neg yc, if_neg yc]
      exact ⟨hFe, hVe⟩
