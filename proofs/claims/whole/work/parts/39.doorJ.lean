/-! Door: the leaves are folded -/
def walkS (c : nH) (t : Nat) (σ : nH) (p : Nat) : nH := sThru t (nu σ 4 p (t - c 4 p)) p
def walkH (h : td_H) (k p t : Nat) : td_H := endH (hu (hu h k 10 ((h k 10) &&& ((jshl 1 (nI p)) ^^^ (-1)))) (k + 9) p (nI t)) (k + 7) (nI p) (nI t)
theorem walkS_app (c : nH) (t : Nat) (σ : nH) (p a b : Nat) : walkS c t σ p a b = if a = 3 ∧ b = p then t else if a = 0 ∧ b = p then 3 else if a = 4 ∧ b = p then t - c 4 p else σ a b := rfl
theorem walkH_app (h : td_H) {k p : Nat} (t : Nat) (hp : p < 12) (a b : Nat) : walkH h k p t a b = if a = k + 7 ∧ b = 4 then (h (k + 7) 4 ||| jshl 1 (nI p)) else if a = k + 10 ∧ b = p then nI t else if a = k + 9 ∧ b = p then nI t else if a = k ∧ b = 10 then (h k 10 &&& (jshl 1 (nI p) ^^^ (-1))) else h a b := by
  unfold walkH endH
  rw [ixn (by omega)]
  simp only [hu_app, Nat.add_assoc]
  simp
theorem dV.walk {c σ : nH} {k : Nat} {h : td_H} (x : dV c σ k h) {p t : Nat} (hp : p < c 1 0) (hn : c 1 0 ≤ 12) (h1 : σ 0 p = 1) (hct : c 4 p ≤ t) : dV c (walkS c t σ p) k (walkH h k p t) ∧ FrD k h (walkH h k p t) := by
  obtain ⟨⟨a1, a2, a3, a4, a5⟩, ⟨w, w1, w2⟩, ⟨d1, d2, d3, d4⟩, hP, hO, f1, f2, hF⟩ := x
  have ap := walkH_app h (k := k) (p := p) t (by omega)
  have r : ∀ a b, ¬ ((a = k ∧ b = 10) ∨ (a = k + 7 ∧ b = 4) ∨ (a = k + 9 ∧ b = p) ∨ (a = k + 10 ∧ b = p)) → walkH h k p t a b = h a b := fun a b n => by
    rw [ap, if_neg (by omega), if_neg (by omega), if_neg (by omega), if_neg (by omega)]
  have m0 : walkS c t σ p 0 p = 3 := by rw [walkS_app]; simp
  have m3 : walkS c t σ p 3 p = t := by rw [walkS_app]; simp
  have m4 : walkS c t σ p 4 p = t - c 4 p := by rw [walkS_app]; simp
  have eo : ∀ a q, q ≠ p → walkS c t σ p a q = σ a q := fun a q n => by rw [walkS_app, if_neg (fun z => n z.2), if_neg (fun z => n z.2), if_neg (fun z => n z.2)]
  have ea : ∀ a q, a ≠ 0 → a ≠ 3 → a ≠ 4 → walkS c t σ p a q = σ a q := fun a q n0 n3 n4 => by rw [walkS_app, if_neg (fun z => n3 z.1), if_neg (fun z => n0 z.1), if_neg (fun z => n4 z.1)]
  have iS : ∀ s q, inSt c (walkS c t σ p) s q = if q = p then decide (s = 3) else inSt c σ s q := fun s q => by
    unfold inSt
    by_cases z : q = p
    · subst z
      rw [m0, if_pos rfl]
      by_cases y : s = 3
      · simp [hp, y]
      · have : ¬ 3 = s := fun w => y w.symm
        simp [y, this]
    · rw [if_neg z, eo 0 q z]
  have iP : ∀ j, inP c (walkS c t σ p) j = inP c σ j := fun j => funext fun q => by
    unfold inP
    by_cases z : q = p
    · subst z
      rw [m0, h1]
      simp
    · rw [eo 0 q z, eo 1 q z]
  have iu : ∀ i, used c (walkS c t σ p) i = used c σ i := fun i => by unfold used; rw [iP]
  have ip : pushS c (walkS c t σ p) = pushS c σ := by
    unfold pushS
    refine fb_sm_cong (fun q _ => ?_)
    by_cases z : q = p
    · subst z
      rw [m0, h1]
      rfl
    · rw [eo 0 q z]
  have i2 : inSt c (walkS c t σ p) 2 = inSt c σ 2 := funext fun q => by
    rw [iS]
    by_cases z : q = p
    · rw [if_pos z, z]
      unfold inSt
      simp [h1]
    · rw [if_neg z]
  refine ⟨⟨⟨?_, ?_, ?_, ?_, ?_⟩, ⟨w, ?_, fun q hq => ?_⟩, ⟨?_, ?_, ?_, ?_⟩, fun j hj => ⟨?_, ?_⟩, fun q hq hq2 => ?_, ?_, ?_, fun q hq => ⟨?_, ?_, ?_, ?_⟩⟩, fun a b nd => ?_⟩
  · rw [ap, if_neg (by omega), if_neg (by omega), if_neg (by omega), if_pos ⟨rfl, rfl⟩, a1, ms_one (by omega), ms_andn]
    refine ms_ext (fun q _ => ?_)
    rw [iS]
    by_cases z : q = p
    · simp [z]
    · simp [z]
  · rw [r _ _ (by omega), ip]; exact a2
  · rw [r _ _ (by omega), ea 8 1 (by decide) (by decide) (by decide)]; exact a3
  · rw [r _ _ (by omega), ea 8 2 (by decide) (by decide) (by decide)]; exact a4
  · rw [r _ _ (by omega), ea 8 5 (by decide) (by decide) (by decide)]; exact a5
  · rw [r _ _ (by omega)]; exact w1
  · by_cases z : q = p
    · subst z
      rw [m0]
      exact ⟨fun _ => by decide, fun y => absurd y (by decide)⟩
    · rw [eo 0 q z, eo 6 q z]
      exact w2 q hq
  · rw [r _ _ (by omega), ea 8 0 (by decide) (by decide) (by decide)]; exact d1
  · rw [r _ _ (by omega), i2]; exact d2
  · rw [r _ _ (by omega), ea 8 4 (by decide) (by decide) (by decide)]; exact d3
  · rw [r _ _ (by omega), ea 8 3 (by decide) (by decide) (by decide)]; exact d4
  · rw [r _ _ (by omega), iP]; exact (hP j hj).1
  · rw [r _ _ (by omega), iu]; exact (hP j hj).2
  · by_cases z : q = p
    · rw [z, m0] at hq2
      exact absurd hq2 (by decide)
    · rw [eo 0 q z] at hq2
      rw [r _ _ (by omega), eo 1 q z]
      exact hO q hq hq2
  · rw [ap, if_pos ⟨rfl, rfl⟩, f1, ms_one (by omega), ms_or]
    refine ms_ext (fun q _ => ?_)
    rw [iS]
    by_cases z : q = p
    · simp [z]
    · simp [z]
  · rw [r _ _ (by omega), f2]
    exact ms_ext (fun q _ => by rw [ea 5 q (by decide) (by decide) (by decide)])
  · rw [r _ _ (by omega), (hF q hq).1, ea 2 q (by decide) (by decide) (by decide)]
  · rw [ap, if_neg (by omega), if_neg (by omega)]
    unfold qE
    by_cases z : q = p
    · rw [if_pos ⟨rfl, z⟩, z, m0, m4, if_neg (by decide)]
      congr 1
      omega
    · rw [if_neg (fun y => z y.2), if_neg (by omega), (hF q hq).2.1, eo 0 q z, eo 4 q z]
      rfl
  · rw [ap, if_neg (by omega)]
    by_cases z : q = p
    · rw [if_pos ⟨rfl, z⟩, z, m3]
    · rw [if_neg (fun y => z y.2), if_neg (by omega), if_neg (by omega), (hF q hq).2.2.1, eo 3 q z]
  · rw [r _ _ (by omega), (hF q hq).2.2.2]
    exact ms_ext (fun j _ => by rw [ea (20 + q) j (by omega) (by omega) (by omega)])
  · unfold dynP at nd
    exact r _ _ (by omega)
def sWk (c : nH) (t s : Nat) : Nat → nH → nH
  | 0, σ => σ
  | m + 1, σ => sWk c t s m (sWalk c t s σ)
theorem sWk_none {c : nH} {t s : Nat} {σ : nH} (h : fstW c σ s (c 1 0) = 12) : ∀ m, sWk c t s m σ = σ
  | 0 => rfl
  | m + 1 => by
    have e : sWalk c t s σ = σ := by unfold sWalk; rw [if_pos h]
    show sWk c t s m (sWalk c t s σ) = σ
    rw [e]
    exact sWk_none h m
set_option maxRecDepth 20000 in
set_option maxHeartbeats 4000000 in
theorem gX0_walkThrough_0 {G : td_G} {d : Nat} {Post : td_P} {k0 : Nat} {x1 x2 : Int32} {h : td_H} (hk0 : td_kd k0 = 0) (K : vp_in x1 2 ∧ (td_J G (d + 1) mX0_walkThrough Post 18 [(0, .ref k0), (1, .int x1), (2, .int x2), (3, .int ((h k0 10) &&& (h (k0 + 14) (ix x1)))), (4, .int 0), (5, .int 0)] [] h)) : td_J G (d + 1) mX0_walkThrough Post 0 [(0, .ref k0), (1, .int x1), (2, .int x2)] [] h := by
  refine td_aload_n 0 dX0_walkThrough_0 rfl ?_
  refine gf_X0_55 rfl hk0 dX0_walkThrough_1 ?_
  refine td_aload_n 0 dX0_walkThrough_4 rfl ?_
  refine gf_X0_32 rfl hk0 dX0_walkThrough_5 ?_
  refine td_iload_n 1 dX0_walkThrough_8 rfl ?_
  obtain ⟨e9, K⟩ := K
  refine td_ialdc (j := (ix x1)) (kd_0_4 hk0) (by decide) e9 rfl dX0_walkThrough_9 ?_
  refine td_iand dX0_walkThrough_10 ?_
  refine td_istore_n (lv2 := [(0, .ref k0), (1, .int x1), (2, .int x2), (3, .int ((h k0 10) &&& (h (k0 + 14) (ix x1))))]) dX0_walkThrough_11 (by decide) rfl ?_
  refine td_iconst (v := 0) dX0_walkThrough_12 (by decide) ?_
  refine td_istore (lv2 := [(0, .ref k0), (1, .int x1), (2, .int x2), (3, .int ((h k0 10) &&& (h (k0 + 14) (ix x1)))), (4, .int 0)]) dX0_walkThrough_13 (by decide) rfl ?_
  refine td_iconst (v := 0) dX0_walkThrough_15 (by decide) ?_
  refine td_istore (lv2 := [(0, .ref k0), (1, .int x1), (2, .int x2), (3, .int ((h k0 10) &&& (h (k0 + 14) (ix x1)))), (4, .int 0), (5, .int 0)]) dX0_walkThrough_16 (by decide) rfl ?_
  exact K
set_option maxRecDepth 20000 in
set_option maxHeartbeats 4000000 in
theorem gX0_walkThrough_18 {G : td_G} {d : Nat} {Post : td_P} {k0 : Nat} {x1 x2 x3 x4 x5 : Int32} {h : td_H} (hk0 : td_kd k0 = 0) (K : td_kd (ix (h k0 5)) = 5 ∧ (((h (ix (h k0 5)) 4) ≤ x5 → (Post none h)) ∧ (¬ (h (ix (h k0 5)) 4) ≤ x5 → ((2 ≤ x4 → (Post none h)) ∧ (¬ 2 ≤ x4 → ((x3 = 0 → (Post none h)) ∧ (¬ x3 = 0 → (vp_in x5 12 ∧ ((¬ ((jshr x3 (h (k0 + 12) (ix x5))) &&& 1) = 0 → (vp_in (h (k0 + 12) (ix x5)) 12 ∧ True)) ∧ (td_J G (d + 1) mX0_walkThrough Post 18 [(0, .ref k0), (1, .int x1), (2, .int x2), (3, .int (if ((jshr x3 (h (k0 + 12) (ix x5))) &&& 1) = 0 then x3 else (x3 &&& ((jshl 1 (h (k0 + 12) (ix x5))) ^^^ (-1))) : Int32)), (4, .int (if ((jshr x3 (h (k0 + 12) (ix x5))) &&& 1) = 0 then x4 else (x4 + 1) : Int32)), (5, .int (x5 + 1))] [] (if ((jshr x3 (h (k0 + 12) (ix x5))) &&& 1) = 0 then h else (endH (hu (hu h k0 10 ((h k0 10) &&& ((jshl 1 (h (k0 + 12) (ix x5))) ^^^ (-1)))) ((k0 + 7) + 2) (ix (h (k0 + 12) (ix x5))) x2) ((k0 + 7)) (h (k0 + 12) (ix x5)) x2) : td_H))))))))))) : td_J G (d + 1) mX0_walkThrough Post 18 [(0, .ref k0), (1, .int x1), (2, .int x2), (3, .int x3), (4, .int x4), (5, .int x5)] [] h := by
  refine td_iload 5 dX0_walkThrough_18 rfl ?_
  refine td_aload_n 0 dX0_walkThrough_20 rfl ?_
  refine gf_X0_38 rfl hk0 dX0_walkThrough_21 ?_
  obtain ⟨e21, K⟩ := K
  refine gf_X0_88 rfl e21 dX0_walkThrough_24 ?_
  obtain ⟨Kt, Kf⟩ := K
  refine td_icmp_ge (tgt := 112) dX0_walkThrough_27 (by decide) (fun q27 => ?_) (fun q27 => ?_)
  · have K := Kt q27
    exact td_return rfl dX0_walkThrough_112 K
  · have K := Kf q27
    refine td_iload 4 dX0_walkThrough_30 rfl ?_
    refine td_iconst (v := 2) dX0_walkThrough_32 (by decide) ?_
    obtain ⟨Kt, Kf⟩ := K
    refine td_icmp_ge (tgt := 112) dX0_walkThrough_33 (by decide) (fun q33 => ?_) (fun q33 => ?_)
    · have K := Kt q33
      exact td_return rfl dX0_walkThrough_112 K
    · have K := Kf q33
      refine td_iload_n 3 dX0_walkThrough_36 rfl ?_
      obtain ⟨Kt, Kf⟩ := K
      refine td_if_eq (tgt := 112) dX0_walkThrough_37 (by decide) (fun q37 => ?_) (fun q37 => ?_)
      · have K := Kt q37
        exact td_return rfl dX0_walkThrough_112 K
      · have K := Kf q37
        refine td_aload_n 0 dX0_walkThrough_40 rfl ?_
        refine gf_X0_25 rfl hk0 dX0_walkThrough_41 ?_
        refine td_iload 5 dX0_walkThrough_44 rfl ?_
        obtain ⟨e46, K⟩ := K
        refine td_ialdc (j := (ix x5)) (kd_0_2 hk0) (by decide) e46 rfl dX0_walkThrough_46 ?_
        refine td_istore (lv2 := [(0, .ref k0), (1, .int x1), (2, .int x2), (3, .int x3), (4, .int x4), (5, .int x5), (6, .int (h (k0 + 12) (ix x5)))]) dX0_walkThrough_47 (by decide) rfl ?_
        refine td_iload_n 3 dX0_walkThrough_49 rfl ?_
        refine td_iload 6 dX0_walkThrough_50 rfl ?_
        refine td_ishr dX0_walkThrough_52 ?_
        refine td_iconst (v := 1) dX0_walkThrough_53 (by decide) ?_
        refine td_iand dX0_walkThrough_54 ?_
        obtain ⟨Ks55, K⟩ := K
        have KJ106 : td_J G (d + 1) mX0_walkThrough Post 106 [(0, .ref k0), (1, .int x1), (2, .int x2), (3, .int (if ((jshr x3 (h (k0 + 12) (ix x5))) &&& 1) = 0 then x3 else (x3 &&& ((jshl 1 (h (k0 + 12) (ix x5))) ^^^ (-1))) : Int32)), (4, .int (if ((jshr x3 (h (k0 + 12) (ix x5))) &&& 1) = 0 then x4 else (x4 + 1) : Int32)), (5, .int x5), (6, .int (h (k0 + 12) (ix x5)))] [] (if ((jshr x3 (h (k0 + 12) (ix x5))) &&& 1) = 0 then h else (endH (hu (hu h k0 10 ((h k0 10) &&& ((jshl 1 (h (k0 + 12) (ix x5))) ^^^ (-1)))) ((k0 + 7) + 2) (ix (h (k0 + 12) (ix x5))) x2) ((k0 + 7)) (h (k0 + 12) (ix x5)) x2) : td_H) := by
          refine td_iinc 5 (v := x5 + 1) (lv2 := [(0, .ref k0), (1, .int x1), (2, .int x2), (3, .int (if ((jshr x3 (h (k0 + 12) (ix x5))) &&& 1) = 0 then x3 else (x3 &&& ((jshl 1 (h (k0 + 12) (ix x5))) ^^^ (-1))) : Int32)), (4, .int (if ((jshr x3 (h (k0 + 12) (ix x5))) &&& 1) = 0 then x4 else (x4 + 1) : Int32)), (5, .int (x5 + 1)), (6, .int (h (k0 + 12) (ix x5)))]) dX0_walkThrough_106 rfl (congrArg (x5 + ·) (by decide)) (by decide) rfl ?_
          refine td_goto (tgt := 18) dX0_walkThrough_109 (by decide) ?_
          refine td_drop (lv2 := [(0, .ref k0), (1, .int x1), (2, .int x2), (3, .int (if ((jshr x3 (h (k0 + 12) (ix x5))) &&& 1) = 0 then x3 else (x3 &&& ((jshl 1 (h (k0 + 12) (ix x5))) ^^^ (-1))) : Int32)), (4, .int (if ((jshr x3 (h (k0 + 12) (ix x5))) &&& 1) = 0 then x4 else (x4 + 1) : Int32)), (5, .int (x5 + 1))]) [0, 1, 2, 3, 4, 5] rfl ?_
          exact K
        refine td_if_eq (tgt := 106) dX0_walkThrough_55 (by decide) (fun q55 => ?_) (fun q55 => ?_)
        · skip
          exact td_to KJ106 (by rw [show (if ((jshr x3 (h (k0 + 12) (ix x5))) &&& 1) = 0 then x3 else (x3 &&& ((jshl 1 (h (k0 + 12) (ix x5))) ^^^ (-1))) : Int32) = _ from if_pos q55, show (if ((jshr x3 (h (k0 + 12) (ix x5))) &&& 1) = 0 then x4 else (x4 + 1) : Int32) = _ from if_pos q55]) rfl (by rw [show (if ((jshr x3 (h (k0 + 12) (ix x5))) &&& 1) = 0 then h else (endH (hu (hu h k0 10 ((h k0 10) &&& ((jshl 1 (h (k0 + 12) (ix x5))) ^^^ (-1)))) ((k0 + 7) + 2) (ix (h (k0 + 12) (ix x5))) x2) ((k0 + 7)) (h (k0 + 12) (ix x5)) x2) : td_H) = _ from if_pos q55])
        · have K := Ks55 q55
          refine td_iload_n 3 dX0_walkThrough_58 rfl ?_
          refine td_iconst (v := 1) dX0_walkThrough_59 (by decide) ?_
          refine td_iload 6 dX0_walkThrough_60 rfl ?_
          refine td_ishl dX0_walkThrough_62 ?_
          refine td_iconst (v := (-1)) dX0_walkThrough_63 (by decide) ?_
          refine td_ixor dX0_walkThrough_64 ?_
          refine td_iand dX0_walkThrough_65 ?_
          refine td_istore_n (lv2 := [(0, .ref k0), (1, .int x1), (2, .int x2), (3, .int (x3 &&& ((jshl 1 (h (k0 + 12) (ix x5))) ^^^ (-1)))), (4, .int x4), (5, .int x5), (6, .int (h (k0 + 12) (ix x5)))]) dX0_walkThrough_66 (by decide) rfl ?_
          refine td_aload_n 0 dX0_walkThrough_67 rfl ?_
          refine td_dup dX0_walkThrough_68 rfl ?_
          refine gf_X0_55 rfl hk0 dX0_walkThrough_69 ?_
          refine td_iconst (v := 1) dX0_walkThrough_72 (by decide) ?_
          refine td_iload 6 dX0_walkThrough_73 rfl ?_
          refine td_ishl dX0_walkThrough_75 ?_
          refine td_iconst (v := (-1)) dX0_walkThrough_76 (by decide) ?_
          refine td_ixor dX0_walkThrough_77 ?_
          refine td_iand dX0_walkThrough_78 ?_
          refine pf_X0_55 rfl hk0 dX0_walkThrough_79 ?_
          refine td_aload_n 0 dX0_walkThrough_82 rfl ?_
          refine gf_X0_21 rfl hk0 dX0_walkThrough_83 ?_
          refine gf_X0_194 rfl (kd_0_1 hk0) dX0_walkThrough_86 ?_
          refine td_iload 6 dX0_walkThrough_89 rfl ?_
          refine td_iload_n 2 dX0_walkThrough_91 rfl ?_
          obtain ⟨e92, K⟩ := K
          refine td_iastc (j := (ix (h (k0 + 12) (ix x5)))) (kd_2_1 (kd_0_1 hk0)) (by decide) e92 rfl dX0_walkThrough_92 ?_
          refine td_aload_n 0 dX0_walkThrough_93 rfl ?_
          refine gf_X0_21 rfl hk0 dX0_walkThrough_94 ?_
          refine td_iload 6 dX0_walkThrough_97 rfl ?_
          refine td_iload_n 2 dX0_walkThrough_99 rfl ?_
          refine cl_X0_159 rfl (kd_0_1 hk0) dX0_walkThrough_100 (Nat.le_of_ble_eq_true rfl) (c_F_end (kd_0_1 hk0) (h (k0 + 12) (ix x5)) x2 e92) (eV_k ?_)
          refine td_eqs (st2 := []) rfl ?_
          refine td_iinc 4 (v := x4 + 1) (lv2 := [(0, .ref k0), (1, .int x1), (2, .int x2), (3, .int (x3 &&& ((jshl 1 (h (k0 + 12) (ix x5))) ^^^ (-1)))), (4, .int (x4 + 1)), (5, .int x5), (6, .int (h (k0 + 12) (ix x5)))]) dX0_walkThrough_103 rfl (congrArg (x4 + ·) (by decide)) (by decide) rfl ?_
          exact td_to KJ106 (by rw [show (if ((jshr x3 (h (k0 + 12) (ix x5))) &&& 1) = 0 then x3 else (x3 &&& ((jshl 1 (h (k0 + 12) (ix x5))) ^^^ (-1))) : Int32) = _ from if_neg q55, show (if ((jshr x3 (h (k0 + 12) (ix x5))) &&& 1) = 0 then x4 else (x4 + 1) : Int32) = _ from if_neg q55]) rfl (by rw [show (if ((jshr x3 (h (k0 + 12) (ix x5))) &&& 1) = 0 then h else (endH (hu (hu h k0 10 ((h k0 10) &&& ((jshl 1 (h (k0 + 12) (ix x5))) ^^^ (-1)))) ((k0 + 7) + 2) (ix (h (k0 + 12) (ix x5))) x2) ((k0 + 7)) (h (k0 + 12) (ix x5)) x2) : td_H) = _ from if_neg q55])
theorem c_C_walk {G : td_G} {d : Nat} {h : td_H} {k q : Nat} {c σ : nH} {Q : Nat → Nat} (x1 x2 : Int32) (hQ : dQ c Q k q h) (hV : dV c σ k h) (hW : WI c (ix x2) σ) (h1 : vp_in x1 2) (h2 : vp_in x2 120) : td_C G (d + 1) mX0_walkThrough [.ref k, .int x1, .int x2] h (fun r h' => r = none ∧ FrD k h h' ∧ dV c (sWk c (ix x2) (ix x1) 2 σ) k h') := by
  obtain ⟨s, hs, rfl⟩ := vp_in_of h1 (by decide)
  obtain ⟨t, ht, rfl⟩ := vp_in_of h2 (by decide)
  have es : ix (nI s) = s := ixn (by omega)
  have et : ix (nI t) = t := ixn (by omega)
  rw [et] at hW
  rw [es, et]
  have hk := hQ.1
  have hwf := hQ.2.2.2.2.1.1
  have hn := hwf.n
  have hk107 := td_kd_lt hk (by decide)
  have hw : ∀ p, p < c 1 0 → c 4 p < 120 := fun p hp => (hwf.p hp).2.2
  have hOrd : qOrd c Q := hQ.2.2.2.2.2.2.2.2.2.2.2.2.1
  have loop : ∀ n' i m (τ : nH) (h' : td_H), i + n' = c 1 0 → m ≤ 2 → (∀ j, j < i → ¬ (τ 0 (Q j) = 1 ∧ c 2 (Q j) = s)) → FrD k h h' → dV c τ k h' → WI c t τ → sWk c t s m τ = sWk c t s 2 σ → td_J G (d + 1) mX0_walkThrough (fun r h' => r = none ∧ FrD k h h' ∧ dV c (sWk c t s 2 σ) k h') 18 [(0, .ref k), (1, .int (nI s)), (2, .int (nI t)), (3, .int (ms (fun p => inSt c τ 1 p && sdM c s p))), (4, .int (nI (2 - m))), (5, .int (nI i))] [] h' := by
    intro n'
    induction n' with
    | zero =>
      intro i m τ h' hi hm hj hF hV' hW' he
      have hQ' := hF.Q hQ
      have e5 : ix (h' k 5) = q := by rw [hQ'.2.2.2.1]; exact ixn (by have := hQ'.2.2.1; omega)
      have e4 : h' (ix (h' k 5)) 4 = nI (c 1 0) := by rw [e5]; exact hQ'.2.2.2.2.1.2.2.1
      have nob : fstW c τ s (c 1 0) = 12 := fst_none (fun p hp => by
        obtain ⟨j, hjn, ej⟩ := qOrd_onto hOrd hw hp
        rw [← ej]
        exact hj j (by omega)) (c 1 0) (Nat.le_refl _)
      rw [sWk_none nob] at he
      refine gX0_walkThrough_18 hk ⟨by rw [e5]; exact hQ'.2.1, fun _ => ⟨rfl, hF, by rw [← he]; exact hV'⟩, fun y => absurd (nle_of (by rw [e4] at y; exact y)) (by omega)⟩
    | succ n' ih =>
      intro i m τ h' hi hm hj hF hV' hW' he
      have hQ' := hF.Q hQ
      have e5 : ix (h' k 5) = q := by rw [hQ'.2.2.2.1]; exact ixn (by have := hQ'.2.2.1; omega)
      have e4 : h' (ix (h' k 5)) 4 = nI (c 1 0) := by rw [e5]; exact hQ'.2.2.2.2.1.2.2.1
      have hin : i < c 1 0 := by omega
      have hq := hOrd.1 i hin
      have ei : ix (nI i) = i := ixn (by omega)
      have eQ : h' (k + 12) i = nI (Q i) := hQ'.2.2.2.2.2.2.2.2.2.2.2.2.2 i hin
      have eq : ix (nI (Q i)) = Q i := ixn (by omega)
      have bit : (jshr (ms (fun p => inSt c τ 1 p && sdM c s p)) (nI (Q i)) &&& 1) = if (inSt c τ 1 (Q i) && sdM c s (Q i)) = true then 1 else 0 := ms_bit _ (by omega)
      have hwt : (inSt c τ 1 (Q i) && sdM c s (Q i)) = true ↔ (τ 0 (Q i) = 1 ∧ c 2 (Q i) = s) := by
        unfold inSt sdM
        simp [hq]
      refine gX0_walkThrough_18 hk ⟨by rw [e5]; exact hQ'.2.1, fun y => absurd (le_of (by rw [e4] at y; exact y)) (by omega), fun _ => ⟨fun y => ?_, fun y0 => ⟨fun y => ?_, fun _ => ⟨vp_in_nI (by omega) (by decide), fun _ => ⟨?_, trivial⟩, ?_⟩⟩⟩⟩
      · have : m = 0 := by have := le_of (a := 2) y; omega
        subst this
        exact ⟨rfl, hF, by rw [← he]; exact hV'⟩
      · have nob : fstW c τ s (c 1 0) = 12 := fst_none (fun p hp z => by
          have y2 := ms_0.mp y p (by omega)
          unfold inSt sdM at y2
          simp [hp, z.1, z.2] at y2) (c 1 0) (Nat.le_refl _)
        rw [sWk_none nob] at he
        exact ⟨rfl, hF, by rw [← he]; exact hV'⟩
      · rw [ei, eQ]; exact vp_in_nI (by omega) (by decide)
      · rw [ei, eQ, eq, bit]
        have hm0 : 1 ≤ m := by have := nle_of (a := 2) y0; omega
        by_cases y : τ 0 (Q i) = 1 ∧ c 2 (Q i) = s
        · have nz : ¬ (if (inSt c τ 1 (Q i) && sdM c s (Q i)) = true then (1 : Int32) else 0) = 0 := by rw [if_pos (hwt.mpr y)]; decide
          rw [if_neg nz, if_neg nz, if_neg nz]
          have hfst := fst_queue hOrd hw hn hin y.1 y.2 hj
          obtain ⟨m', rfl⟩ : ∃ m', m = m' + 1 := ⟨m - 1, by omega⟩
          have e1 : sWalk c t s τ = walkS c t τ (Q i) := by
            unfold sWalk
            rw [hfst, if_neg (by omega)]
            rfl
          have he2 : sWk c t s m' (walkS c t τ (Q i)) = sWk c t s 2 σ := by
            rw [← he, ← e1]; rfl
          have hcm := hW' (Q i) hq (by rw [y.1]; decide)
          obtain ⟨v1, v2⟩ := hV'.walk (t := t) hq hn y.1 hcm
          refine td_to (ih (i + 1) m' (walkS c t τ (Q i)) (walkH h' k (Q i) t) (by omega) (by omega) (fun j hj2 w => ?_) (hF.tr v2) v1 (fun p hp z => ?_) he2) ?_ rfl rfl
          · rw [walkS_app] at w
            by_cases v : Q j = Q i
            · rw [if_neg (by omega), if_pos ⟨rfl, v⟩] at w; exact absurd w.1 (by decide)
            · rw [if_neg (by omega), if_neg (fun u => v u.2), if_neg (by omega)] at w
              have : j ≠ i := fun u => v (by rw [u])
              exact hj j (by omega) w
          · by_cases v : p = Q i
            · rw [v]; exact hcm
            · rw [walkS_app, if_neg (by omega), if_neg (fun u => v u.2), if_neg (by omega)] at z
              exact hW' p hp z
          · have e6 : nI (2 - (m' + 1)) + 1 = nI (2 - m') := by rw [nI_1]; congr 1; omega
            rw [e6, nI_1, ms_one (by omega), ms_andn]
            refine congrArg (fun z => [(0, Value.ref k), (1, Value.int (nI s)), (2, Value.int (nI t)), (3, Value.int z), (4, Value.int (nI (2 - m'))), (5, Value.int (nI (i + 1)))]) (ms_ext (fun p _ => ?_))
            unfold inSt
            rw [walkS_app, if_neg (by omega)]
            by_cases v : p = Q i
            · simp [v]
            · simp [v]
        · have nz : (if (inSt c τ 1 (Q i) && sdM c s (Q i)) = true then (1 : Int32) else 0) = 0 := by rw [if_neg (fun z => y (hwt.mp z))]
          rw [if_pos nz, if_pos nz, if_pos nz]
          refine td_to (ih (i + 1) m τ h' (by omega) hm (fun j hj2 => ?_) hF hV' hW' he) (by rw [nI_1]) rfl rfl
          rcases Nat.lt_or_ge j i with v | v
          · exact hj j v
          · have : j = i := by omega
            subst this
            exact y
  refine td_entry rfl (Nat.le_of_ble_eq_true rfl) rfl (gX0_walkThrough_0 hk ⟨h1, ?_⟩)
  refine td_to (loop (c 1 0) 0 2 σ h (by omega) (by omega) (fun j hj => absurd hj (by omega)) (FrD.rf k h) hV hW rfl) ?_ rfl rfl
  rw [es, hV.1.1, hQ.2.2.2.2.2.2.2.2.2.2.1 s hs, ms_and]
  rfl
