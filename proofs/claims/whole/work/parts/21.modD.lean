/-! Model: a step -/
theorem sOut_0 (c : nH) (t : Nat) (σ : nH) : sOut c t σ 0 = σ := by
  funext a b
  simp [sOut]
theorem sOut_at (c : nH) (t : Nat) (σ : nH) (k a : Nat) : sOut c t σ k a k = σ a k := by
  simp [sOut]
theorem sOut_8 (c : nH) (t : Nat) (σ : nH) (k b : Nat) : sOut c t σ k 8 b = σ 8 b := by
  simp [sOut]
theorem sOut_s (c : nH) (t : Nat) (σ : nH) (k : Nat) (a b : Nat) : sOut c t σ (k + 1) a b = if b = k then (if a = 0 ∧ goesO c σ k = true then 3 else if a = 3 ∧ goesO c σ k = true then t else if a = 6 ∧ σ 0 k = 2 then dazN c σ k else σ a k) else sOut c t σ k a b := by
  unfold sOut
  by_cases e : b = k
  · subst e
    simp
  · rw [if_neg e]
    have e2 : (b < k + 1) = (b < k) := by apply propext; omega
    simp only [e2]
theorem sOut_no (c : nH) (t : Nat) (σ : nH) (k : Nat) (h : ¬ σ 0 k = 2) : sOut c t σ (k + 1) = sOut c t σ k := by
  have g : ¬ goesO c σ k = true := by unfold goesO atM; simp [h]
  funext a b
  rw [sOut_s]
  by_cases e : b = k
  · subst e
    rw [if_pos rfl, sOut_at]
    simp [g, h]
  · rw [if_neg e]
theorem sOut_go (c : nH) (t : Nat) (σ : nH) (k : Nat) (h : σ 0 k = 2) (g : goesO c σ k = true) : sOut c t σ (k + 1) = nu (nu (nu (sOut c t σ k) 0 k 3) 3 k t) 6 k (dazN c σ k) := by
  funext a b
  rw [sOut_s]
  simp only [nu_app]
  by_cases e : b = k
  · subst e
    rw [if_pos rfl]
    by_cases a0 : a = 0
    · subst a0; simp [g]
    · by_cases a3 : a = 3
      · subst a3; simp [g]
      · by_cases a6 : a = 6
        · subst a6; simp [h]
        · simp [a0, a3, a6, sOut_at]
  · simp [e]
theorem sOut_st (c : nH) (t : Nat) (σ : nH) (k : Nat) (h : σ 0 k = 2) (g : ¬ goesO c σ k = true) : sOut c t σ (k + 1) = nu (sOut c t σ k) 6 k (dazN c σ k) := by
  funext a b
  rw [sOut_s]
  simp only [nu_app]
  by_cases e : b = k
  · subst e
    rw [if_pos rfl]
    by_cases a6 : a = 6
    · subst a6; simp [h]
    · simp [g, a6, sOut_at]
  · simp [e]
theorem nn_t {t : Nat} (h : t < 120) : nn t = nI t := by unfold nn; rw [if_neg (by omega)]
theorem lossS_succ (c σ : nH) (w i : Nat) : lossS c σ w (i + 1) = lossS c σ w i + (if opn c i 0 w && !(opn c i 0 (σ 8 0)) then c 0 6 * (c 0 2 - used c σ i) else 0) := rfl
theorem used_nu8 (c σ : nH) (j v i : Nat) : used c (nu σ 8 j v) i = used c σ i := by
  unfold used
  apply fb_sm_cong
  intro k _
  simp [inP, nu_app]
theorem n1e : ((1 : Int32) = 0) = False := by simp
set_option maxRecDepth 20000 in
set_option maxHeartbeats 4000000 in
theorem gX10_step_0 {G : td_G} {d : Nat} {Post : td_P} {x1 : Int32} {h : td_H} (K : td_J G (d + 3) mX10_step Post 30 [(0, .ref 85), (1, .int x1), (2, .int (h 85 17)), (3, .int 0)] [] (hu (hu h 85 17 (jrem ((h 85 17) + 1) 12)) 85 21 (((hu h 85 17 (jrem ((h 85 17) + 1) 12)) 85 21) + 1))) : td_J G (d + 3) mX10_step Post 0 [(0, .ref 85), (1, .int x1)] [] h := by
  refine td_aload_n 0 dX10_step_0 rfl ?_
  refine gf_X10_176 rfl kp_85 dX10_step_1 ?_
  refine td_istore_n (lv2 := [(0, .ref 85), (1, .int x1), (2, .int (h 85 17))]) dX10_step_4 (by decide) rfl ?_
  refine td_aload_n 0 dX10_step_5 rfl ?_
  refine td_aload_n 0 dX10_step_6 rfl ?_
  refine gf_X10_176 rfl kp_85 dX10_step_7 ?_
  refine td_iconst (v := 1) dX10_step_10 (by decide) ?_
  refine td_iadd dX10_step_11 ?_
  refine td_bipush (v := 12) dX10_step_12 (by decide) ?_
  refine td_irem dX10_step_14 (by decide) ?_
  refine pf_X10_176 rfl kp_85 dX10_step_15 ?_
  refine td_aload_n 0 dX10_step_18 rfl ?_
  refine td_dup dX10_step_19 rfl ?_
  refine gf_X10_179 rfl kp_85 dX10_step_20 ?_
  refine td_iconst (v := 1) dX10_step_23 (by decide) ?_
  refine td_iadd dX10_step_24 ?_
  refine pf_X10_179 rfl kp_85 dX10_step_25 ?_
  refine td_iconst (v := 0) dX10_step_28 (by decide) ?_
  refine td_istore_n (lv2 := [(0, .ref 85), (1, .int x1), (2, .int (h 85 17)), (3, .int 0)]) dX10_step_29 (by decide) rfl ?_
  exact K
set_option maxRecDepth 20000 in
set_option maxHeartbeats 4000000 in
theorem gX10_step_30 {G : td_G} {d : Nat} {Post : td_P} {c : nH} {x1 x2 x3 : Int32} {h : td_H} (K : ((h 86 9) ≤ x3 → td_J G (d + 3) mX10_step Post 175 [(0, .ref 85), (1, .int x1), (2, .int x2), (3, .int 0)] [] h) ∧ (¬ (h 86 9) ≤ x3 → (vp_in x3 12 ∧ (((h 91 (ix x3)) = 2 → (vp_in ((10 + (3 * x3)) + 1) 46 ∧ (rmC c h ∧ vp_in (h 92 (ix x3)) 4 ∧ vp_in (1 - (h 86 (ix ((10 + (3 * x3)) + 1)))) 2 ∧ vp_in (h 85 17) 12 ∧ (vp_in ((10 + (3 * x3)) + 2) 46 ∧ True)))) ∧ (td_J G (d + 3) mX10_step Post 30 [(0, .ref 85), (1, .int x1), (2, .int x2), (3, .int (x3 + 1))] [] (if (h 91 (ix x3)) = 2 then (hu (if (b2i (opn c (ix (h 92 (ix x3))) (ix (1 - (h 86 (ix ((10 + (3 * x3)) + 1))))) (ix (h 85 17)) = true)) = 0 then h else if (if (h 86 (ix ((10 + (3 * x3)) + 2))) = 5 then if 2 ≤ (h 97 (ix x3)) then 0 else 1 else 0 : Int32) = 0 then (hu (hu h 91 (ix x3) 3) 94 (ix x3) x1) else h : td_H) 97 (ix x3) (if (b2i (opn c (ix (h 92 (ix x3))) (ix (1 - (h 86 (ix ((10 + (3 * x3)) + 1))))) (ix (h 85 17)) = true)) = 0 then if (b2i (opn c (ix (h 92 (ix x3))) (ix (1 - (h 86 (ix ((10 + (3 * x3)) + 1))))) (ix (h 85 17)) = true)) = 0 then if ((if (b2i (opn c (ix (h 92 (ix x3))) (ix (1 - (h 86 (ix ((10 + (3 * x3)) + 1))))) (ix (h 85 17)) = true)) = 0 then h else if (if (h 86 (ix ((10 + (3 * x3)) + 2))) = 5 then if 2 ≤ (h 97 (ix x3)) then 0 else 1 else 0 : Int32) = 0 then (hu (hu h 91 (ix x3) 3) 94 (ix x3) x1) else h : td_H) 97 (ix x3)) = 1 then 2 else ((if (b2i (opn c (ix (h 92 (ix x3))) (ix (1 - (h 86 (ix ((10 + (3 * x3)) + 1))))) (ix (h 85 17)) = true)) = 0 then h else if (if (h 86 (ix ((10 + (3 * x3)) + 2))) = 5 then if 2 ≤ (h 97 (ix x3)) then 0 else 1 else 0 : Int32) = 0 then (hu (hu h 91 (ix x3) 3) 94 (ix x3) x1) else h : td_H) 97 (ix x3)) else ((if (b2i (opn c (ix (h 92 (ix x3))) (ix (1 - (h 86 (ix ((10 + (3 * x3)) + 1))))) (ix (h 85 17)) = true)) = 0 then h else if (if (h 86 (ix ((10 + (3 * x3)) + 2))) = 5 then if 2 ≤ (h 97 (ix x3)) then 0 else 1 else 0 : Int32) = 0 then (hu (hu h 91 (ix x3) 3) 94 (ix x3) x1) else h : td_H) 97 (ix x3)) else if ((if (b2i (opn c (ix (h 92 (ix x3))) (ix (1 - (h 86 (ix ((10 + (3 * x3)) + 1))))) (ix (h 85 17)) = true)) = 0 then h else if (if (h 86 (ix ((10 + (3 * x3)) + 2))) = 5 then if 2 ≤ (h 97 (ix x3)) then 0 else 1 else 0 : Int32) = 0 then (hu (hu h 91 (ix x3) 3) 94 (ix x3) x1) else h : td_H) 97 (ix x3)) = 0 then 1 else if (b2i (opn c (ix (h 92 (ix x3))) (ix (1 - (h 86 (ix ((10 + (3 * x3)) + 1))))) (ix (h 85 17)) = true)) = 0 then if ((if (b2i (opn c (ix (h 92 (ix x3))) (ix (1 - (h 86 (ix ((10 + (3 * x3)) + 1))))) (ix (h 85 17)) = true)) = 0 then h else if (if (h 86 (ix ((10 + (3 * x3)) + 2))) = 5 then if 2 ≤ (h 97 (ix x3)) then 0 else 1 else 0 : Int32) = 0 then (hu (hu h 91 (ix x3) 3) 94 (ix x3) x1) else h : td_H) 97 (ix x3)) = 1 then 2 else ((if (b2i (opn c (ix (h 92 (ix x3))) (ix (1 - (h 86 (ix ((10 + (3 * x3)) + 1))))) (ix (h 85 17)) = true)) = 0 then h else if (if (h 86 (ix ((10 + (3 * x3)) + 2))) = 5 then if 2 ≤ (h 97 (ix x3)) then 0 else 1 else 0 : Int32) = 0 then (hu (hu h 91 (ix x3) 3) 94 (ix x3) x1) else h : td_H) 97 (ix x3)) else ((if (b2i (opn c (ix (h 92 (ix x3))) (ix (1 - (h 86 (ix ((10 + (3 * x3)) + 1))))) (ix (h 85 17)) = true)) = 0 then h else if (if (h 86 (ix ((10 + (3 * x3)) + 2))) = 5 then if 2 ≤ (h 97 (ix x3)) then 0 else 1 else 0 : Int32) = 0 then (hu (hu h 91 (ix x3) 3) 94 (ix x3) x1) else h : td_H) 97 (ix x3)) : Int32)) else h : td_H)))))) : td_J G (d + 3) mX10_step Post 30 [(0, .ref 85), (1, .int x1), (2, .int x2), (3, .int x3)] [] h := by
  refine td_iload_n 3 dX10_step_30 rfl ?_
  refine td_aload_n 0 dX10_step_31 rfl ?_
  refine gf_X10_7 rfl kp_85 dX10_step_32 ?_
  refine td_bipush (v := 9) dX10_step_35 (by decide) ?_
  refine td_ialdc (j := 9) kp_86 (by decide) (by unfold vp_in; decide) (by decide) dX10_step_37 ?_
  obtain ⟨Kt, Kf⟩ := K
  refine td_icmp_ge (tgt := 173) dX10_step_38 (by decide) (fun q38 => ?_) (fun q38 => ?_)
  · have K := Kt q38
    refine td_iconst (v := 0) dX10_step_173 (by decide) ?_
    refine td_istore_n (lv2 := [(0, .ref 85), (1, .int x1), (2, .int x2), (3, .int 0)]) dX10_step_174 (by decide) rfl ?_
    exact K
  · have K := Kf q38
    refine td_aload_n 0 dX10_step_41 rfl ?_
    refine gf_X10_25 rfl kp_85 dX10_step_42 ?_
    refine td_iload_n 3 dX10_step_45 rfl ?_
    obtain ⟨e46, K⟩ := K
    refine td_ialdc (j := (ix x3)) kp_91 (by decide) e46 rfl dX10_step_46 ?_
    refine td_iconst (v := 2) dX10_step_47 (by decide) ?_
    obtain ⟨Ks48, K⟩ := K
    have KJ167 : td_J G (d + 3) mX10_step Post 167 [(0, .ref 85), (1, .int x1), (2, .int x2), (3, .int x3)] [] (if (h 91 (ix x3)) = 2 then (hu (if (b2i (opn c (ix (h 92 (ix x3))) (ix (1 - (h 86 (ix ((10 + (3 * x3)) + 1))))) (ix (h 85 17)) = true)) = 0 then h else if (if (h 86 (ix ((10 + (3 * x3)) + 2))) = 5 then if 2 ≤ (h 97 (ix x3)) then 0 else 1 else 0 : Int32) = 0 then (hu (hu h 91 (ix x3) 3) 94 (ix x3) x1) else h : td_H) 97 (ix x3) (if (b2i (opn c (ix (h 92 (ix x3))) (ix (1 - (h 86 (ix ((10 + (3 * x3)) + 1))))) (ix (h 85 17)) = true)) = 0 then if (b2i (opn c (ix (h 92 (ix x3))) (ix (1 - (h 86 (ix ((10 + (3 * x3)) + 1))))) (ix (h 85 17)) = true)) = 0 then if ((if (b2i (opn c (ix (h 92 (ix x3))) (ix (1 - (h 86 (ix ((10 + (3 * x3)) + 1))))) (ix (h 85 17)) = true)) = 0 then h else if (if (h 86 (ix ((10 + (3 * x3)) + 2))) = 5 then if 2 ≤ (h 97 (ix x3)) then 0 else 1 else 0 : Int32) = 0 then (hu (hu h 91 (ix x3) 3) 94 (ix x3) x1) else h : td_H) 97 (ix x3)) = 1 then 2 else ((if (b2i (opn c (ix (h 92 (ix x3))) (ix (1 - (h 86 (ix ((10 + (3 * x3)) + 1))))) (ix (h 85 17)) = true)) = 0 then h else if (if (h 86 (ix ((10 + (3 * x3)) + 2))) = 5 then if 2 ≤ (h 97 (ix x3)) then 0 else 1 else 0 : Int32) = 0 then (hu (hu h 91 (ix x3) 3) 94 (ix x3) x1) else h : td_H) 97 (ix x3)) else ((if (b2i (opn c (ix (h 92 (ix x3))) (ix (1 - (h 86 (ix ((10 + (3 * x3)) + 1))))) (ix (h 85 17)) = true)) = 0 then h else if (if (h 86 (ix ((10 + (3 * x3)) + 2))) = 5 then if 2 ≤ (h 97 (ix x3)) then 0 else 1 else 0 : Int32) = 0 then (hu (hu h 91 (ix x3) 3) 94 (ix x3) x1) else h : td_H) 97 (ix x3)) else if ((if (b2i (opn c (ix (h 92 (ix x3))) (ix (1 - (h 86 (ix ((10 + (3 * x3)) + 1))))) (ix (h 85 17)) = true)) = 0 then h else if (if (h 86 (ix ((10 + (3 * x3)) + 2))) = 5 then if 2 ≤ (h 97 (ix x3)) then 0 else 1 else 0 : Int32) = 0 then (hu (hu h 91 (ix x3) 3) 94 (ix x3) x1) else h : td_H) 97 (ix x3)) = 0 then 1 else if (b2i (opn c (ix (h 92 (ix x3))) (ix (1 - (h 86 (ix ((10 + (3 * x3)) + 1))))) (ix (h 85 17)) = true)) = 0 then if ((if (b2i (opn c (ix (h 92 (ix x3))) (ix (1 - (h 86 (ix ((10 + (3 * x3)) + 1))))) (ix (h 85 17)) = true)) = 0 then h else if (if (h 86 (ix ((10 + (3 * x3)) + 2))) = 5 then if 2 ≤ (h 97 (ix x3)) then 0 else 1 else 0 : Int32) = 0 then (hu (hu h 91 (ix x3) 3) 94 (ix x3) x1) else h : td_H) 97 (ix x3)) = 1 then 2 else ((if (b2i (opn c (ix (h 92 (ix x3))) (ix (1 - (h 86 (ix ((10 + (3 * x3)) + 1))))) (ix (h 85 17)) = true)) = 0 then h else if (if (h 86 (ix ((10 + (3 * x3)) + 2))) = 5 then if 2 ≤ (h 97 (ix x3)) then 0 else 1 else 0 : Int32) = 0 then (hu (hu h 91 (ix x3) 3) 94 (ix x3) x1) else h : td_H) 97 (ix x3)) else ((if (b2i (opn c (ix (h 92 (ix x3))) (ix (1 - (h 86 (ix ((10 + (3 * x3)) + 1))))) (ix (h 85 17)) = true)) = 0 then h else if (if (h 86 (ix ((10 + (3 * x3)) + 2))) = 5 then if 2 ≤ (h 97 (ix x3)) then 0 else 1 else 0 : Int32) = 0 then (hu (hu h 91 (ix x3) 3) 94 (ix x3) x1) else h : td_H) 97 (ix x3)) : Int32)) else h : td_H) := by
      refine td_iinc 3 (v := x3 + 1) (lv2 := [(0, .ref 85), (1, .int x1), (2, .int x2), (3, .int (x3 + 1))]) dX10_step_167 rfl (congrArg (x3 + ·) (by decide)) (by decide) rfl ?_
      refine td_goto (tgt := 30) dX10_step_170 (by decide) ?_
      exact K
    refine td_icmp_ne (tgt := 167) dX10_step_48 (by decide) (fun q48 => ?_) (fun q48 => ?_)
    · skip
      exact td_to KJ167 rfl rfl (by rw [show (if (h 91 (ix x3)) = 2 then (hu (if (b2i (opn c (ix (h 92 (ix x3))) (ix (1 - (h 86 (ix ((10 + (3 * x3)) + 1))))) (ix (h 85 17)) = true)) = 0 then h else if (if (h 86 (ix ((10 + (3 * x3)) + 2))) = 5 then if 2 ≤ (h 97 (ix x3)) then 0 else 1 else 0 : Int32) = 0 then (hu (hu h 91 (ix x3) 3) 94 (ix x3) x1) else h : td_H) 97 (ix x3) (if (b2i (opn c (ix (h 92 (ix x3))) (ix (1 - (h 86 (ix ((10 + (3 * x3)) + 1))))) (ix (h 85 17)) = true)) = 0 then if (b2i (opn c (ix (h 92 (ix x3))) (ix (1 - (h 86 (ix ((10 + (3 * x3)) + 1))))) (ix (h 85 17)) = true)) = 0 then if ((if (b2i (opn c (ix (h 92 (ix x3))) (ix (1 - (h 86 (ix ((10 + (3 * x3)) + 1))))) (ix (h 85 17)) = true)) = 0 then h else if (if (h 86 (ix ((10 + (3 * x3)) + 2))) = 5 then if 2 ≤ (h 97 (ix x3)) then 0 else 1 else 0 : Int32) = 0 then (hu (hu h 91 (ix x3) 3) 94 (ix x3) x1) else h : td_H) 97 (ix x3)) = 1 then 2 else ((if (b2i (opn c (ix (h 92 (ix x3))) (ix (1 - (h 86 (ix ((10 + (3 * x3)) + 1))))) (ix (h 85 17)) = true)) = 0 then h else if (if (h 86 (ix ((10 + (3 * x3)) + 2))) = 5 then if 2 ≤ (h 97 (ix x3)) then 0 else 1 else 0 : Int32) = 0 then (hu (hu h 91 (ix x3) 3) 94 (ix x3) x1) else h : td_H) 97 (ix x3)) else ((if (b2i (opn c (ix (h 92 (ix x3))) (ix (1 - (h 86 (ix ((10 + (3 * x3)) + 1))))) (ix (h 85 17)) = true)) = 0 then h else if (if (h 86 (ix ((10 + (3 * x3)) + 2))) = 5 then if 2 ≤ (h 97 (ix x3)) then 0 else 1 else 0 : Int32) = 0 then (hu (hu h 91 (ix x3) 3) 94 (ix x3) x1) else h : td_H) 97 (ix x3)) else if ((if (b2i (opn c (ix (h 92 (ix x3))) (ix (1 - (h 86 (ix ((10 + (3 * x3)) + 1))))) (ix (h 85 17)) = true)) = 0 then h else if (if (h 86 (ix ((10 + (3 * x3)) + 2))) = 5 then if 2 ≤ (h 97 (ix x3)) then 0 else 1 else 0 : Int32) = 0 then (hu (hu h 91 (ix x3) 3) 94 (ix x3) x1) else h : td_H) 97 (ix x3)) = 0 then 1 else if (b2i (opn c (ix (h 92 (ix x3))) (ix (1 - (h 86 (ix ((10 + (3 * x3)) + 1))))) (ix (h 85 17)) = true)) = 0 then if ((if (b2i (opn c (ix (h 92 (ix x3))) (ix (1 - (h 86 (ix ((10 + (3 * x3)) + 1))))) (ix (h 85 17)) = true)) = 0 then h else if (if (h 86 (ix ((10 + (3 * x3)) + 2))) = 5 then if 2 ≤ (h 97 (ix x3)) then 0 else 1 else 0 : Int32) = 0 then (hu (hu h 91 (ix x3) 3) 94 (ix x3) x1) else h : td_H) 97 (ix x3)) = 1 then 2 else ((if (b2i (opn c (ix (h 92 (ix x3))) (ix (1 - (h 86 (ix ((10 + (3 * x3)) + 1))))) (ix (h 85 17)) = true)) = 0 then h else if (if (h 86 (ix ((10 + (3 * x3)) + 2))) = 5 then if 2 ≤ (h 97 (ix x3)) then 0 else 1 else 0 : Int32) = 0 then (hu (hu h 91 (ix x3) 3) 94 (ix x3) x1) else h : td_H) 97 (ix x3)) else ((if (b2i (opn c (ix (h 92 (ix x3))) (ix (1 - (h 86 (ix ((10 + (3 * x3)) + 1))))) (ix (h 85 17)) = true)) = 0 then h else if (if (h 86 (ix ((10 + (3 * x3)) + 2))) = 5 then if 2 ≤ (h 97 (ix x3)) then 0 else 1 else 0 : Int32) = 0 then (hu (hu h 91 (ix x3) 3) 94 (ix x3) x1) else h : td_H) 97 (ix x3)) : Int32)) else h : td_H) = _ from if_neg q48])
    · have K := Ks48 q48
      refine td_aload_n 0 dX10_step_51 rfl ?_
      refine td_aload_n 0 dX10_step_52 rfl ?_
      refine gf_X10_28 rfl kp_85 dX10_step_53 ?_
      refine td_iload_n 3 dX10_step_56 rfl ?_
      refine td_ialdc (j := (ix x3)) kp_92 (by decide) e46 rfl dX10_step_57 ?_
      refine td_iconst (v := 1) dX10_step_58 (by decide) ?_
      refine td_aload_n 0 dX10_step_59 rfl ?_
      refine td_iload_n 3 dX10_step_60 rfl ?_
      refine td_iconst (v := 1) dX10_step_61 (by decide) ?_
      obtain ⟨e62_0, K⟩ := K
      refine cl_X10_94 rfl kp_85 dX10_step_62 (Nat.le_of_ble_eq_true rfl) (c_of x3 1 e62_0) (eR_k ?_)
      refine td_eqs (st2 := [.int (h 86 (ix ((10 + (3 * x3)) + 1))), .int 1, .int (h 92 (ix x3)), .ref 85]) rfl ?_
      refine td_isub dX10_step_65 ?_
      refine td_aload_n 0 dX10_step_66 rfl ?_
      refine gf_X10_176 rfl kp_85 dX10_step_67 ?_
      obtain ⟨e70_0, K⟩ := K
      obtain ⟨e70_1, K⟩ := K
      obtain ⟨e70_2, K⟩ := K
      obtain ⟨e70_3, K⟩ := K
      refine cl_X10_107 rfl kp_85 dX10_step_70 (Nat.le_of_ble_eq_true rfl) (c_isOpen c (h 92 (ix x3)) (1 - (h 86 (ix ((10 + (3 * x3)) + 1)))) (h 85 17) e70_0 e70_1 e70_2 e70_3) (eR_k ?_)
      refine td_eqs (st2 := [.int (b2i (opn c (ix (h 92 (ix x3))) (ix (1 - (h 86 (ix ((10 + (3 * x3)) + 1))))) (ix (h 85 17)) = true))]) rfl ?_
      refine td_istore (lv2 := [(0, .ref 85), (1, .int x1), (2, .int x2), (3, .int x3), (4, .int (b2i (opn c (ix (h 92 (ix x3))) (ix (1 - (h 86 (ix ((10 + (3 * x3)) + 1))))) (ix (h 85 17)) = true)))]) dX10_step_73 (by decide) rfl ?_
      refine td_aload_n 0 dX10_step_75 rfl ?_
      refine td_iload_n 3 dX10_step_76 rfl ?_
      refine td_iconst (v := 2) dX10_step_77 (by decide) ?_
      obtain ⟨e78_0, K⟩ := K
      refine cl_X10_94 rfl kp_85 dX10_step_78 (Nat.le_of_ble_eq_true rfl) (c_of x3 2 e78_0) (eR_k ?_)
      refine td_eqs (st2 := [.int (h 86 (ix ((10 + (3 * x3)) + 2)))]) rfl ?_
      refine td_iconst (v := 5) dX10_step_81 (by decide) ?_
      have KJ100 : td_J G (d + 3) mX10_step Post 100 [(0, .ref 85), (1, .int x1), (2, .int x2), (3, .int x3), (4, .int (b2i (opn c (ix (h 92 (ix x3))) (ix (1 - (h 86 (ix ((10 + (3 * x3)) + 1))))) (ix (h 85 17)) = true)))] [.int (if (h 86 (ix ((10 + (3 * x3)) + 2))) = 5 then if 2 ≤ (h 97 (ix x3)) then 0 else 1 else 0 : Int32)] h := by
        refine td_istore (lv2 := [(0, .ref 85), (1, .int x1), (2, .int x2), (3, .int x3), (4, .int (b2i (opn c (ix (h 92 (ix x3))) (ix (1 - (h 86 (ix ((10 + (3 * x3)) + 1))))) (ix (h 85 17)) = true))), (5, .int (if (h 86 (ix ((10 + (3 * x3)) + 2))) = 5 then if 2 ≤ (h 97 (ix x3)) then 0 else 1 else 0 : Int32))]) dX10_step_100 (by decide) rfl ?_
        refine td_iload 4 dX10_step_102 rfl ?_
        have KJ118 : td_J G (d + 3) mX10_step Post 118 [(0, .ref 85), (1, .int x1), (2, .int x2), (3, .int x3), (4, .int (b2i (opn c (ix (h 92 (ix x3))) (ix (1 - (h 86 (ix ((10 + (3 * x3)) + 1))))) (ix (h 85 17)) = true))), (5, .int (if (h 86 (ix ((10 + (3 * x3)) + 2))) = 5 then if 2 ≤ (h 97 (ix x3)) then 0 else 1 else 0 : Int32))] [] (if (b2i (opn c (ix (h 92 (ix x3))) (ix (1 - (h 86 (ix ((10 + (3 * x3)) + 1))))) (ix (h 85 17)) = true)) = 0 then h else if (if (h 86 (ix ((10 + (3 * x3)) + 2))) = 5 then if 2 ≤ (h 97 (ix x3)) then 0 else 1 else 0 : Int32) = 0 then (hu (hu h 91 (ix x3) 3) 94 (ix x3) x1) else h : td_H) := by
          refine td_aload_n 0 dX10_step_118 rfl ?_
          refine gf_X10_43 rfl kp_85 dX10_step_119 ?_
          refine td_iload_n 3 dX10_step_122 rfl ?_
          refine td_iload 4 dX10_step_123 rfl ?_
          have KJ166 : td_J G (d + 3) mX10_step Post 166 [(0, .ref 85), (1, .int x1), (2, .int x2), (3, .int x3), (4, .int (b2i (opn c (ix (h 92 (ix x3))) (ix (1 - (h 86 (ix ((10 + (3 * x3)) + 1))))) (ix (h 85 17)) = true))), (5, .int (if (h 86 (ix ((10 + (3 * x3)) + 2))) = 5 then if 2 ≤ (h 97 (ix x3)) then 0 else 1 else 0 : Int32))] [.int (if (b2i (opn c (ix (h 92 (ix x3))) (ix (1 - (h 86 (ix ((10 + (3 * x3)) + 1))))) (ix (h 85 17)) = true)) = 0 then if (b2i (opn c (ix (h 92 (ix x3))) (ix (1 - (h 86 (ix ((10 + (3 * x3)) + 1))))) (ix (h 85 17)) = true)) = 0 then if ((if (b2i (opn c (ix (h 92 (ix x3))) (ix (1 - (h 86 (ix ((10 + (3 * x3)) + 1))))) (ix (h 85 17)) = true)) = 0 then h else if (if (h 86 (ix ((10 + (3 * x3)) + 2))) = 5 then if 2 ≤ (h 97 (ix x3)) then 0 else 1 else 0 : Int32) = 0 then (hu (hu h 91 (ix x3) 3) 94 (ix x3) x1) else h : td_H) 97 (ix x3)) = 1 then 2 else ((if (b2i (opn c (ix (h 92 (ix x3))) (ix (1 - (h 86 (ix ((10 + (3 * x3)) + 1))))) (ix (h 85 17)) = true)) = 0 then h else if (if (h 86 (ix ((10 + (3 * x3)) + 2))) = 5 then if 2 ≤ (h 97 (ix x3)) then 0 else 1 else 0 : Int32) = 0 then (hu (hu h 91 (ix x3) 3) 94 (ix x3) x1) else h : td_H) 97 (ix x3)) else ((if (b2i (opn c (ix (h 92 (ix x3))) (ix (1 - (h 86 (ix ((10 + (3 * x3)) + 1))))) (ix (h 85 17)) = true)) = 0 then h else if (if (h 86 (ix ((10 + (3 * x3)) + 2))) = 5 then if 2 ≤ (h 97 (ix x3)) then 0 else 1 else 0 : Int32) = 0 then (hu (hu h 91 (ix x3) 3) 94 (ix x3) x1) else h : td_H) 97 (ix x3)) else if ((if (b2i (opn c (ix (h 92 (ix x3))) (ix (1 - (h 86 (ix ((10 + (3 * x3)) + 1))))) (ix (h 85 17)) = true)) = 0 then h else if (if (h 86 (ix ((10 + (3 * x3)) + 2))) = 5 then if 2 ≤ (h 97 (ix x3)) then 0 else 1 else 0 : Int32) = 0 then (hu (hu h 91 (ix x3) 3) 94 (ix x3) x1) else h : td_H) 97 (ix x3)) = 0 then 1 else if (b2i (opn c (ix (h 92 (ix x3))) (ix (1 - (h 86 (ix ((10 + (3 * x3)) + 1))))) (ix (h 85 17)) = true)) = 0 then if ((if (b2i (opn c (ix (h 92 (ix x3))) (ix (1 - (h 86 (ix ((10 + (3 * x3)) + 1))))) (ix (h 85 17)) = true)) = 0 then h else if (if (h 86 (ix ((10 + (3 * x3)) + 2))) = 5 then if 2 ≤ (h 97 (ix x3)) then 0 else 1 else 0 : Int32) = 0 then (hu (hu h 91 (ix x3) 3) 94 (ix x3) x1) else h : td_H) 97 (ix x3)) = 1 then 2 else ((if (b2i (opn c (ix (h 92 (ix x3))) (ix (1 - (h 86 (ix ((10 + (3 * x3)) + 1))))) (ix (h 85 17)) = true)) = 0 then h else if (if (h 86 (ix ((10 + (3 * x3)) + 2))) = 5 then if 2 ≤ (h 97 (ix x3)) then 0 else 1 else 0 : Int32) = 0 then (hu (hu h 91 (ix x3) 3) 94 (ix x3) x1) else h : td_H) 97 (ix x3)) else ((if (b2i (opn c (ix (h 92 (ix x3))) (ix (1 - (h 86 (ix ((10 + (3 * x3)) + 1))))) (ix (h 85 17)) = true)) = 0 then h else if (if (h 86 (ix ((10 + (3 * x3)) + 2))) = 5 then if 2 ≤ (h 97 (ix x3)) then 0 else 1 else 0 : Int32) = 0 then (hu (hu h 91 (ix x3) 3) 94 (ix x3) x1) else h : td_H) 97 (ix x3)) : Int32), .int x3, .ref 97] (if (b2i (opn c (ix (h 92 (ix x3))) (ix (1 - (h 86 (ix ((10 + (3 * x3)) + 1))))) (ix (h 85 17)) = true)) = 0 then h else if (if (h 86 (ix ((10 + (3 * x3)) + 2))) = 5 then if 2 ≤ (h 97 (ix x3)) then 0 else 1 else 0 : Int32) = 0 then (hu (hu h 91 (ix x3) 3) 94 (ix x3) x1) else h : td_H) := by
            refine td_iastc (j := (ix x3)) kp_97 (by decide) e46 rfl dX10_step_166 ?_
            refine td_drop (lv2 := [(0, .ref 85), (1, .int x1), (2, .int x2), (3, .int x3)]) [0, 1, 2, 3] rfl ?_
            exact td_to KJ167 rfl rfl (by rw [show (if (h 91 (ix x3)) = 2 then (hu (if (b2i (opn c (ix (h 92 (ix x3))) (ix (1 - (h 86 (ix ((10 + (3 * x3)) + 1))))) (ix (h 85 17)) = true)) = 0 then h else if (if (h 86 (ix ((10 + (3 * x3)) + 2))) = 5 then if 2 ≤ (h 97 (ix x3)) then 0 else 1 else 0 : Int32) = 0 then (hu (hu h 91 (ix x3) 3) 94 (ix x3) x1) else h : td_H) 97 (ix x3) (if (b2i (opn c (ix (h 92 (ix x3))) (ix (1 - (h 86 (ix ((10 + (3 * x3)) + 1))))) (ix (h 85 17)) = true)) = 0 then if (b2i (opn c (ix (h 92 (ix x3))) (ix (1 - (h 86 (ix ((10 + (3 * x3)) + 1))))) (ix (h 85 17)) = true)) = 0 then if ((if (b2i (opn c (ix (h 92 (ix x3))) (ix (1 - (h 86 (ix ((10 + (3 * x3)) + 1))))) (ix (h 85 17)) = true)) = 0 then h else if (if (h 86 (ix ((10 + (3 * x3)) + 2))) = 5 then if 2 ≤ (h 97 (ix x3)) then 0 else 1 else 0 : Int32) = 0 then (hu (hu h 91 (ix x3) 3) 94 (ix x3) x1) else h : td_H) 97 (ix x3)) = 1 then 2 else ((if (b2i (opn c (ix (h 92 (ix x3))) (ix (1 - (h 86 (ix ((10 + (3 * x3)) + 1))))) (ix (h 85 17)) = true)) = 0 then h else if (if (h 86 (ix ((10 + (3 * x3)) + 2))) = 5 then if 2 ≤ (h 97 (ix x3)) then 0 else 1 else 0 : Int32) = 0 then (hu (hu h 91 (ix x3) 3) 94 (ix x3) x1) else h : td_H) 97 (ix x3)) else ((if (b2i (opn c (ix (h 92 (ix x3))) (ix (1 - (h 86 (ix ((10 + (3 * x3)) + 1))))) (ix (h 85 17)) = true)) = 0 then h else if (if (h 86 (ix ((10 + (3 * x3)) + 2))) = 5 then if 2 ≤ (h 97 (ix x3)) then 0 else 1 else 0 : Int32) = 0 then (hu (hu h 91 (ix x3) 3) 94 (ix x3) x1) else h : td_H) 97 (ix x3)) else if ((if (b2i (opn c (ix (h 92 (ix x3))) (ix (1 - (h 86 (ix ((10 + (3 * x3)) + 1))))) (ix (h 85 17)) = true)) = 0 then h else if (if (h 86 (ix ((10 + (3 * x3)) + 2))) = 5 then if 2 ≤ (h 97 (ix x3)) then 0 else 1 else 0 : Int32) = 0 then (hu (hu h 91 (ix x3) 3) 94 (ix x3) x1) else h : td_H) 97 (ix x3)) = 0 then 1 else if (b2i (opn c (ix (h 92 (ix x3))) (ix (1 - (h 86 (ix ((10 + (3 * x3)) + 1))))) (ix (h 85 17)) = true)) = 0 then if ((if (b2i (opn c (ix (h 92 (ix x3))) (ix (1 - (h 86 (ix ((10 + (3 * x3)) + 1))))) (ix (h 85 17)) = true)) = 0 then h else if (if (h 86 (ix ((10 + (3 * x3)) + 2))) = 5 then if 2 ≤ (h 97 (ix x3)) then 0 else 1 else 0 : Int32) = 0 then (hu (hu h 91 (ix x3) 3) 94 (ix x3) x1) else h : td_H) 97 (ix x3)) = 1 then 2 else ((if (b2i (opn c (ix (h 92 (ix x3))) (ix (1 - (h 86 (ix ((10 + (3 * x3)) + 1))))) (ix (h 85 17)) = true)) = 0 then h else if (if (h 86 (ix ((10 + (3 * x3)) + 2))) = 5 then if 2 ≤ (h 97 (ix x3)) then 0 else 1 else 0 : Int32) = 0 then (hu (hu h 91 (ix x3) 3) 94 (ix x3) x1) else h : td_H) 97 (ix x3)) else ((if (b2i (opn c (ix (h 92 (ix x3))) (ix (1 - (h 86 (ix ((10 + (3 * x3)) + 1))))) (ix (h 85 17)) = true)) = 0 then h else if (if (h 86 (ix ((10 + (3 * x3)) + 2))) = 5 then if 2 ≤ (h 97 (ix x3)) then 0 else 1 else 0 : Int32) = 0 then (hu (hu h 91 (ix x3) 3) 94 (ix x3) x1) else h : td_H) 97 (ix x3)) : Int32)) else h : td_H) = _ from if_pos q48])
          refine td_if_eq (tgt := 141) dX10_step_125 (by decide) (fun q125 => ?_) (fun q125 => ?_)
          · skip
            refine td_iload 4 dX10_step_141 rfl ?_
            refine td_if_ne (tgt := 160) dX10_step_143 (by decide) (fun q143 => ?_) (fun q143 => ?_)
            · skip
              refine td_aload_n 0 dX10_step_160 rfl ?_
              refine gf_X10_43 rfl kp_85 dX10_step_161 ?_
              refine td_iload_n 3 dX10_step_164 rfl ?_
              refine td_ialdc (j := (ix x3)) kp_97 (by decide) e46 rfl dX10_step_165 ?_
              exact td_to KJ166 rfl (by rw [show (if (b2i (opn c (ix (h 92 (ix x3))) (ix (1 - (h 86 (ix ((10 + (3 * x3)) + 1))))) (ix (h 85 17)) = true)) = 0 then if (b2i (opn c (ix (h 92 (ix x3))) (ix (1 - (h 86 (ix ((10 + (3 * x3)) + 1))))) (ix (h 85 17)) = true)) = 0 then if ((if (b2i (opn c (ix (h 92 (ix x3))) (ix (1 - (h 86 (ix ((10 + (3 * x3)) + 1))))) (ix (h 85 17)) = true)) = 0 then h else if (if (h 86 (ix ((10 + (3 * x3)) + 2))) = 5 then if 2 ≤ (h 97 (ix x3)) then 0 else 1 else 0 : Int32) = 0 then (hu (hu h 91 (ix x3) 3) 94 (ix x3) x1) else h : td_H) 97 (ix x3)) = 1 then 2 else ((if (b2i (opn c (ix (h 92 (ix x3))) (ix (1 - (h 86 (ix ((10 + (3 * x3)) + 1))))) (ix (h 85 17)) = true)) = 0 then h else if (if (h 86 (ix ((10 + (3 * x3)) + 2))) = 5 then if 2 ≤ (h 97 (ix x3)) then 0 else 1 else 0 : Int32) = 0 then (hu (hu h 91 (ix x3) 3) 94 (ix x3) x1) else h : td_H) 97 (ix x3)) else ((if (b2i (opn c (ix (h 92 (ix x3))) (ix (1 - (h 86 (ix ((10 + (3 * x3)) + 1))))) (ix (h 85 17)) = true)) = 0 then h else if (if (h 86 (ix ((10 + (3 * x3)) + 2))) = 5 then if 2 ≤ (h 97 (ix x3)) then 0 else 1 else 0 : Int32) = 0 then (hu (hu h 91 (ix x3) 3) 94 (ix x3) x1) else h : td_H) 97 (ix x3)) else if ((if (b2i (opn c (ix (h 92 (ix x3))) (ix (1 - (h 86 (ix ((10 + (3 * x3)) + 1))))) (ix (h 85 17)) = true)) = 0 then h else if (if (h 86 (ix ((10 + (3 * x3)) + 2))) = 5 then if 2 ≤ (h 97 (ix x3)) then 0 else 1 else 0 : Int32) = 0 then (hu (hu h 91 (ix x3) 3) 94 (ix x3) x1) else h : td_H) 97 (ix x3)) = 0 then 1 else if (b2i (opn c (ix (h 92 (ix x3))) (ix (1 - (h 86 (ix ((10 + (3 * x3)) + 1))))) (ix (h 85 17)) = true)) = 0 then if ((if (b2i (opn c (ix (h 92 (ix x3))) (ix (1 - (h 86 (ix ((10 + (3 * x3)) + 1))))) (ix (h 85 17)) = true)) = 0 then h else if (if (h 86 (ix ((10 + (3 * x3)) + 2))) = 5 then if 2 ≤ (h 97 (ix x3)) then 0 else 1 else 0 : Int32) = 0 then (hu (hu h 91 (ix x3) 3) 94 (ix x3) x1) else h : td_H) 97 (ix x3)) = 1 then 2 else ((if (b2i (opn c (ix (h 92 (ix x3))) (ix (1 - (h 86 (ix ((10 + (3 * x3)) + 1))))) (ix (h 85 17)) = true)) = 0 then h else if (if (h 86 (ix ((10 + (3 * x3)) + 2))) = 5 then if 2 ≤ (h 97 (ix x3)) then 0 else 1 else 0 : Int32) = 0 then (hu (hu h 91 (ix x3) 3) 94 (ix x3) x1) else h : td_H) 97 (ix x3)) else ((if (b2i (opn c (ix (h 92 (ix x3))) (ix (1 - (h 86 (ix ((10 + (3 * x3)) + 1))))) (ix (h 85 17)) = true)) = 0 then h else if (if (h 86 (ix ((10 + (3 * x3)) + 2))) = 5 then if 2 ≤ (h 97 (ix x3)) then 0 else 1 else 0 : Int32) = 0 then (hu (hu h 91 (ix x3) 3) 94 (ix x3) x1) else h : td_H) 97 (ix x3)) : Int32) = _ from (if_pos q125).trans (if_neg q143)]) rfl
            · skip
              refine td_aload_n 0 dX10_step_146 rfl ?_
              refine gf_X10_43 rfl kp_85 dX10_step_147 ?_
              refine td_iload_n 3 dX10_step_150 rfl ?_
              refine td_ialdc (j := (ix x3)) kp_97 (by decide) e46 rfl dX10_step_151 ?_
              refine td_iconst (v := 1) dX10_step_152 (by decide) ?_
              refine td_icmp_ne (tgt := 160) dX10_step_153 (by decide) (fun q153 => ?_) (fun q153 => ?_)
              · skip
                refine td_aload_n 0 dX10_step_160 rfl ?_
                refine gf_X10_43 rfl kp_85 dX10_step_161 ?_
                refine td_iload_n 3 dX10_step_164 rfl ?_
                refine td_ialdc (j := (ix x3)) kp_97 (by decide) e46 rfl dX10_step_165 ?_
                exact td_to KJ166 rfl (by rw [show (if (b2i (opn c (ix (h 92 (ix x3))) (ix (1 - (h 86 (ix ((10 + (3 * x3)) + 1))))) (ix (h 85 17)) = true)) = 0 then if (b2i (opn c (ix (h 92 (ix x3))) (ix (1 - (h 86 (ix ((10 + (3 * x3)) + 1))))) (ix (h 85 17)) = true)) = 0 then if ((if (b2i (opn c (ix (h 92 (ix x3))) (ix (1 - (h 86 (ix ((10 + (3 * x3)) + 1))))) (ix (h 85 17)) = true)) = 0 then h else if (if (h 86 (ix ((10 + (3 * x3)) + 2))) = 5 then if 2 ≤ (h 97 (ix x3)) then 0 else 1 else 0 : Int32) = 0 then (hu (hu h 91 (ix x3) 3) 94 (ix x3) x1) else h : td_H) 97 (ix x3)) = 1 then 2 else ((if (b2i (opn c (ix (h 92 (ix x3))) (ix (1 - (h 86 (ix ((10 + (3 * x3)) + 1))))) (ix (h 85 17)) = true)) = 0 then h else if (if (h 86 (ix ((10 + (3 * x3)) + 2))) = 5 then if 2 ≤ (h 97 (ix x3)) then 0 else 1 else 0 : Int32) = 0 then (hu (hu h 91 (ix x3) 3) 94 (ix x3) x1) else h : td_H) 97 (ix x3)) else ((if (b2i (opn c (ix (h 92 (ix x3))) (ix (1 - (h 86 (ix ((10 + (3 * x3)) + 1))))) (ix (h 85 17)) = true)) = 0 then h else if (if (h 86 (ix ((10 + (3 * x3)) + 2))) = 5 then if 2 ≤ (h 97 (ix x3)) then 0 else 1 else 0 : Int32) = 0 then (hu (hu h 91 (ix x3) 3) 94 (ix x3) x1) else h : td_H) 97 (ix x3)) else if ((if (b2i (opn c (ix (h 92 (ix x3))) (ix (1 - (h 86 (ix ((10 + (3 * x3)) + 1))))) (ix (h 85 17)) = true)) = 0 then h else if (if (h 86 (ix ((10 + (3 * x3)) + 2))) = 5 then if 2 ≤ (h 97 (ix x3)) then 0 else 1 else 0 : Int32) = 0 then (hu (hu h 91 (ix x3) 3) 94 (ix x3) x1) else h : td_H) 97 (ix x3)) = 0 then 1 else if (b2i (opn c (ix (h 92 (ix x3))) (ix (1 - (h 86 (ix ((10 + (3 * x3)) + 1))))) (ix (h 85 17)) = true)) = 0 then if ((if (b2i (opn c (ix (h 92 (ix x3))) (ix (1 - (h 86 (ix ((10 + (3 * x3)) + 1))))) (ix (h 85 17)) = true)) = 0 then h else if (if (h 86 (ix ((10 + (3 * x3)) + 2))) = 5 then if 2 ≤ (h 97 (ix x3)) then 0 else 1 else 0 : Int32) = 0 then (hu (hu h 91 (ix x3) 3) 94 (ix x3) x1) else h : td_H) 97 (ix x3)) = 1 then 2 else ((if (b2i (opn c (ix (h 92 (ix x3))) (ix (1 - (h 86 (ix ((10 + (3 * x3)) + 1))))) (ix (h 85 17)) = true)) = 0 then h else if (if (h 86 (ix ((10 + (3 * x3)) + 2))) = 5 then if 2 ≤ (h 97 (ix x3)) then 0 else 1 else 0 : Int32) = 0 then (hu (hu h 91 (ix x3) 3) 94 (ix x3) x1) else h : td_H) 97 (ix x3)) else ((if (b2i (opn c (ix (h 92 (ix x3))) (ix (1 - (h 86 (ix ((10 + (3 * x3)) + 1))))) (ix (h 85 17)) = true)) = 0 then h else if (if (h 86 (ix ((10 + (3 * x3)) + 2))) = 5 then if 2 ≤ (h 97 (ix x3)) then 0 else 1 else 0 : Int32) = 0 then (hu (hu h 91 (ix x3) 3) 94 (ix x3) x1) else h : td_H) 97 (ix x3)) : Int32) = _ from (if_pos q125).trans ((if_pos q143).trans (if_neg q153))]) rfl
              · skip
                refine td_iconst (v := 2) dX10_step_156 (by decide) ?_
                refine td_goto (tgt := 166) dX10_step_157 (by decide) ?_
                exact td_to KJ166 rfl (by rw [show (if (b2i (opn c (ix (h 92 (ix x3))) (ix (1 - (h 86 (ix ((10 + (3 * x3)) + 1))))) (ix (h 85 17)) = true)) = 0 then if (b2i (opn c (ix (h 92 (ix x3))) (ix (1 - (h 86 (ix ((10 + (3 * x3)) + 1))))) (ix (h 85 17)) = true)) = 0 then if ((if (b2i (opn c (ix (h 92 (ix x3))) (ix (1 - (h 86 (ix ((10 + (3 * x3)) + 1))))) (ix (h 85 17)) = true)) = 0 then h else if (if (h 86 (ix ((10 + (3 * x3)) + 2))) = 5 then if 2 ≤ (h 97 (ix x3)) then 0 else 1 else 0 : Int32) = 0 then (hu (hu h 91 (ix x3) 3) 94 (ix x3) x1) else h : td_H) 97 (ix x3)) = 1 then 2 else ((if (b2i (opn c (ix (h 92 (ix x3))) (ix (1 - (h 86 (ix ((10 + (3 * x3)) + 1))))) (ix (h 85 17)) = true)) = 0 then h else if (if (h 86 (ix ((10 + (3 * x3)) + 2))) = 5 then if 2 ≤ (h 97 (ix x3)) then 0 else 1 else 0 : Int32) = 0 then (hu (hu h 91 (ix x3) 3) 94 (ix x3) x1) else h : td_H) 97 (ix x3)) else ((if (b2i (opn c (ix (h 92 (ix x3))) (ix (1 - (h 86 (ix ((10 + (3 * x3)) + 1))))) (ix (h 85 17)) = true)) = 0 then h else if (if (h 86 (ix ((10 + (3 * x3)) + 2))) = 5 then if 2 ≤ (h 97 (ix x3)) then 0 else 1 else 0 : Int32) = 0 then (hu (hu h 91 (ix x3) 3) 94 (ix x3) x1) else h : td_H) 97 (ix x3)) else if ((if (b2i (opn c (ix (h 92 (ix x3))) (ix (1 - (h 86 (ix ((10 + (3 * x3)) + 1))))) (ix (h 85 17)) = true)) = 0 then h else if (if (h 86 (ix ((10 + (3 * x3)) + 2))) = 5 then if 2 ≤ (h 97 (ix x3)) then 0 else 1 else 0 : Int32) = 0 then (hu (hu h 91 (ix x3) 3) 94 (ix x3) x1) else h : td_H) 97 (ix x3)) = 0 then 1 else if (b2i (opn c (ix (h 92 (ix x3))) (ix (1 - (h 86 (ix ((10 + (3 * x3)) + 1))))) (ix (h 85 17)) = true)) = 0 then if ((if (b2i (opn c (ix (h 92 (ix x3))) (ix (1 - (h 86 (ix ((10 + (3 * x3)) + 1))))) (ix (h 85 17)) = true)) = 0 then h else if (if (h 86 (ix ((10 + (3 * x3)) + 2))) = 5 then if 2 ≤ (h 97 (ix x3)) then 0 else 1 else 0 : Int32) = 0 then (hu (hu h 91 (ix x3) 3) 94 (ix x3) x1) else h : td_H) 97 (ix x3)) = 1 then 2 else ((if (b2i (opn c (ix (h 92 (ix x3))) (ix (1 - (h 86 (ix ((10 + (3 * x3)) + 1))))) (ix (h 85 17)) = true)) = 0 then h else if (if (h 86 (ix ((10 + (3 * x3)) + 2))) = 5 then if 2 ≤ (h 97 (ix x3)) then 0 else 1 else 0 : Int32) = 0 then (hu (hu h 91 (ix x3) 3) 94 (ix x3) x1) else h : td_H) 97 (ix x3)) else ((if (b2i (opn c (ix (h 92 (ix x3))) (ix (1 - (h 86 (ix ((10 + (3 * x3)) + 1))))) (ix (h 85 17)) = true)) = 0 then h else if (if (h 86 (ix ((10 + (3 * x3)) + 2))) = 5 then if 2 ≤ (h 97 (ix x3)) then 0 else 1 else 0 : Int32) = 0 then (hu (hu h 91 (ix x3) 3) 94 (ix x3) x1) else h : td_H) 97 (ix x3)) : Int32) = _ from (if_pos q125).trans ((if_pos q143).trans (if_pos q153))]) rfl
          · skip
            refine td_aload_n 0 dX10_step_128 rfl ?_
            refine gf_X10_43 rfl kp_85 dX10_step_129 ?_
            refine td_iload_n 3 dX10_step_132 rfl ?_
            refine td_ialdc (j := (ix x3)) kp_97 (by decide) e46 rfl dX10_step_133 ?_
            refine td_if_ne (tgt := 141) dX10_step_134 (by decide) (fun q134 => ?_) (fun q134 => ?_)
            · skip
              refine td_iload 4 dX10_step_141 rfl ?_
              refine td_if_ne (tgt := 160) dX10_step_143 (by decide) (fun q143 => ?_) (fun q143 => ?_)
              · skip
                refine td_aload_n 0 dX10_step_160 rfl ?_
                refine gf_X10_43 rfl kp_85 dX10_step_161 ?_
                refine td_iload_n 3 dX10_step_164 rfl ?_
                refine td_ialdc (j := (ix x3)) kp_97 (by decide) e46 rfl dX10_step_165 ?_
                exact td_to KJ166 rfl (by rw [show (if (b2i (opn c (ix (h 92 (ix x3))) (ix (1 - (h 86 (ix ((10 + (3 * x3)) + 1))))) (ix (h 85 17)) = true)) = 0 then if (b2i (opn c (ix (h 92 (ix x3))) (ix (1 - (h 86 (ix ((10 + (3 * x3)) + 1))))) (ix (h 85 17)) = true)) = 0 then if ((if (b2i (opn c (ix (h 92 (ix x3))) (ix (1 - (h 86 (ix ((10 + (3 * x3)) + 1))))) (ix (h 85 17)) = true)) = 0 then h else if (if (h 86 (ix ((10 + (3 * x3)) + 2))) = 5 then if 2 ≤ (h 97 (ix x3)) then 0 else 1 else 0 : Int32) = 0 then (hu (hu h 91 (ix x3) 3) 94 (ix x3) x1) else h : td_H) 97 (ix x3)) = 1 then 2 else ((if (b2i (opn c (ix (h 92 (ix x3))) (ix (1 - (h 86 (ix ((10 + (3 * x3)) + 1))))) (ix (h 85 17)) = true)) = 0 then h else if (if (h 86 (ix ((10 + (3 * x3)) + 2))) = 5 then if 2 ≤ (h 97 (ix x3)) then 0 else 1 else 0 : Int32) = 0 then (hu (hu h 91 (ix x3) 3) 94 (ix x3) x1) else h : td_H) 97 (ix x3)) else ((if (b2i (opn c (ix (h 92 (ix x3))) (ix (1 - (h 86 (ix ((10 + (3 * x3)) + 1))))) (ix (h 85 17)) = true)) = 0 then h else if (if (h 86 (ix ((10 + (3 * x3)) + 2))) = 5 then if 2 ≤ (h 97 (ix x3)) then 0 else 1 else 0 : Int32) = 0 then (hu (hu h 91 (ix x3) 3) 94 (ix x3) x1) else h : td_H) 97 (ix x3)) else if ((if (b2i (opn c (ix (h 92 (ix x3))) (ix (1 - (h 86 (ix ((10 + (3 * x3)) + 1))))) (ix (h 85 17)) = true)) = 0 then h else if (if (h 86 (ix ((10 + (3 * x3)) + 2))) = 5 then if 2 ≤ (h 97 (ix x3)) then 0 else 1 else 0 : Int32) = 0 then (hu (hu h 91 (ix x3) 3) 94 (ix x3) x1) else h : td_H) 97 (ix x3)) = 0 then 1 else if (b2i (opn c (ix (h 92 (ix x3))) (ix (1 - (h 86 (ix ((10 + (3 * x3)) + 1))))) (ix (h 85 17)) = true)) = 0 then if ((if (b2i (opn c (ix (h 92 (ix x3))) (ix (1 - (h 86 (ix ((10 + (3 * x3)) + 1))))) (ix (h 85 17)) = true)) = 0 then h else if (if (h 86 (ix ((10 + (3 * x3)) + 2))) = 5 then if 2 ≤ (h 97 (ix x3)) then 0 else 1 else 0 : Int32) = 0 then (hu (hu h 91 (ix x3) 3) 94 (ix x3) x1) else h : td_H) 97 (ix x3)) = 1 then 2 else ((if (b2i (opn c (ix (h 92 (ix x3))) (ix (1 - (h 86 (ix ((10 + (3 * x3)) + 1))))) (ix (h 85 17)) = true)) = 0 then h else if (if (h 86 (ix ((10 + (3 * x3)) + 2))) = 5 then if 2 ≤ (h 97 (ix x3)) then 0 else 1 else 0 : Int32) = 0 then (hu (hu h 91 (ix x3) 3) 94 (ix x3) x1) else h : td_H) 97 (ix x3)) else ((if (b2i (opn c (ix (h 92 (ix x3))) (ix (1 - (h 86 (ix ((10 + (3 * x3)) + 1))))) (ix (h 85 17)) = true)) = 0 then h else if (if (h 86 (ix ((10 + (3 * x3)) + 2))) = 5 then if 2 ≤ (h 97 (ix x3)) then 0 else 1 else 0 : Int32) = 0 then (hu (hu h 91 (ix x3) 3) 94 (ix x3) x1) else h : td_H) 97 (ix x3)) : Int32) = _ from (if_neg q125).trans ((if_neg q134).trans (if_neg q143))]) rfl
              · skip
                refine td_aload_n 0 dX10_step_146 rfl ?_
                refine gf_X10_43 rfl kp_85 dX10_step_147 ?_
                refine td_iload_n 3 dX10_step_150 rfl ?_
                refine td_ialdc (j := (ix x3)) kp_97 (by decide) e46 rfl dX10_step_151 ?_
                refine td_iconst (v := 1) dX10_step_152 (by decide) ?_
                refine td_icmp_ne (tgt := 160) dX10_step_153 (by decide) (fun q153 => ?_) (fun q153 => ?_)
                · skip
                  refine td_aload_n 0 dX10_step_160 rfl ?_
                  refine gf_X10_43 rfl kp_85 dX10_step_161 ?_
                  refine td_iload_n 3 dX10_step_164 rfl ?_
                  refine td_ialdc (j := (ix x3)) kp_97 (by decide) e46 rfl dX10_step_165 ?_
                  exact td_to KJ166 rfl (by rw [show (if (b2i (opn c (ix (h 92 (ix x3))) (ix (1 - (h 86 (ix ((10 + (3 * x3)) + 1))))) (ix (h 85 17)) = true)) = 0 then if (b2i (opn c (ix (h 92 (ix x3))) (ix (1 - (h 86 (ix ((10 + (3 * x3)) + 1))))) (ix (h 85 17)) = true)) = 0 then if ((if (b2i (opn c (ix (h 92 (ix x3))) (ix (1 - (h 86 (ix ((10 + (3 * x3)) + 1))))) (ix (h 85 17)) = true)) = 0 then h else if (if (h 86 (ix ((10 + (3 * x3)) + 2))) = 5 then if 2 ≤ (h 97 (ix x3)) then 0 else 1 else 0 : Int32) = 0 then (hu (hu h 91 (ix x3) 3) 94 (ix x3) x1) else h : td_H) 97 (ix x3)) = 1 then 2 else ((if (b2i (opn c (ix (h 92 (ix x3))) (ix (1 - (h 86 (ix ((10 + (3 * x3)) + 1))))) (ix (h 85 17)) = true)) = 0 then h else if (if (h 86 (ix ((10 + (3 * x3)) + 2))) = 5 then if 2 ≤ (h 97 (ix x3)) then 0 else 1 else 0 : Int32) = 0 then (hu (hu h 91 (ix x3) 3) 94 (ix x3) x1) else h : td_H) 97 (ix x3)) else ((if (b2i (opn c (ix (h 92 (ix x3))) (ix (1 - (h 86 (ix ((10 + (3 * x3)) + 1))))) (ix (h 85 17)) = true)) = 0 then h else if (if (h 86 (ix ((10 + (3 * x3)) + 2))) = 5 then if 2 ≤ (h 97 (ix x3)) then 0 else 1 else 0 : Int32) = 0 then (hu (hu h 91 (ix x3) 3) 94 (ix x3) x1) else h : td_H) 97 (ix x3)) else if ((if (b2i (opn c (ix (h 92 (ix x3))) (ix (1 - (h 86 (ix ((10 + (3 * x3)) + 1))))) (ix (h 85 17)) = true)) = 0 then h else if (if (h 86 (ix ((10 + (3 * x3)) + 2))) = 5 then if 2 ≤ (h 97 (ix x3)) then 0 else 1 else 0 : Int32) = 0 then (hu (hu h 91 (ix x3) 3) 94 (ix x3) x1) else h : td_H) 97 (ix x3)) = 0 then 1 else if (b2i (opn c (ix (h 92 (ix x3))) (ix (1 - (h 86 (ix ((10 + (3 * x3)) + 1))))) (ix (h 85 17)) = true)) = 0 then if ((if (b2i (opn c (ix (h 92 (ix x3))) (ix (1 - (h 86 (ix ((10 + (3 * x3)) + 1))))) (ix (h 85 17)) = true)) = 0 then h else if (if (h 86 (ix ((10 + (3 * x3)) + 2))) = 5 then if 2 ≤ (h 97 (ix x3)) then 0 else 1 else 0 : Int32) = 0 then (hu (hu h 91 (ix x3) 3) 94 (ix x3) x1) else h : td_H) 97 (ix x3)) = 1 then 2 else ((if (b2i (opn c (ix (h 92 (ix x3))) (ix (1 - (h 86 (ix ((10 + (3 * x3)) + 1))))) (ix (h 85 17)) = true)) = 0 then h else if (if (h 86 (ix ((10 + (3 * x3)) + 2))) = 5 then if 2 ≤ (h 97 (ix x3)) then 0 else 1 else 0 : Int32) = 0 then (hu (hu h 91 (ix x3) 3) 94 (ix x3) x1) else h : td_H) 97 (ix x3)) else ((if (b2i (opn c (ix (h 92 (ix x3))) (ix (1 - (h 86 (ix ((10 + (3 * x3)) + 1))))) (ix (h 85 17)) = true)) = 0 then h else if (if (h 86 (ix ((10 + (3 * x3)) + 2))) = 5 then if 2 ≤ (h 97 (ix x3)) then 0 else 1 else 0 : Int32) = 0 then (hu (hu h 91 (ix x3) 3) 94 (ix x3) x1) else h : td_H) 97 (ix x3)) : Int32) = _ from (if_neg q125).trans ((if_neg q134).trans ((if_pos q143).trans (if_neg q153)))]) rfl
                · skip
                  refine td_iconst (v := 2) dX10_step_156 (by decide) ?_
                  refine td_goto (tgt := 166) dX10_step_157 (by decide) ?_
                  exact td_to KJ166 rfl (by rw [show (if (b2i (opn c (ix (h 92 (ix x3))) (ix (1 - (h 86 (ix ((10 + (3 * x3)) + 1))))) (ix (h 85 17)) = true)) = 0 then if (b2i (opn c (ix (h 92 (ix x3))) (ix (1 - (h 86 (ix ((10 + (3 * x3)) + 1))))) (ix (h 85 17)) = true)) = 0 then if ((if (b2i (opn c (ix (h 92 (ix x3))) (ix (1 - (h 86 (ix ((10 + (3 * x3)) + 1))))) (ix (h 85 17)) = true)) = 0 then h else if (if (h 86 (ix ((10 + (3 * x3)) + 2))) = 5 then if 2 ≤ (h 97 (ix x3)) then 0 else 1 else 0 : Int32) = 0 then (hu (hu h 91 (ix x3) 3) 94 (ix x3) x1) else h : td_H) 97 (ix x3)) = 1 then 2 else ((if (b2i (opn c (ix (h 92 (ix x3))) (ix (1 - (h 86 (ix ((10 + (3 * x3)) + 1))))) (ix (h 85 17)) = true)) = 0 then h else if (if (h 86 (ix ((10 + (3 * x3)) + 2))) = 5 then if 2 ≤ (h 97 (ix x3)) then 0 else 1 else 0 : Int32) = 0 then (hu (hu h 91 (ix x3) 3) 94 (ix x3) x1) else h : td_H) 97 (ix x3)) else ((if (b2i (opn c (ix (h 92 (ix x3))) (ix (1 - (h 86 (ix ((10 + (3 * x3)) + 1))))) (ix (h 85 17)) = true)) = 0 then h else if (if (h 86 (ix ((10 + (3 * x3)) + 2))) = 5 then if 2 ≤ (h 97 (ix x3)) then 0 else 1 else 0 : Int32) = 0 then (hu (hu h 91 (ix x3) 3) 94 (ix x3) x1) else h : td_H) 97 (ix x3)) else if ((if (b2i (opn c (ix (h 92 (ix x3))) (ix (1 - (h 86 (ix ((10 + (3 * x3)) + 1))))) (ix (h 85 17)) = true)) = 0 then h else if (if (h 86 (ix ((10 + (3 * x3)) + 2))) = 5 then if 2 ≤ (h 97 (ix x3)) then 0 else 1 else 0 : Int32) = 0 then (hu (hu h 91 (ix x3) 3) 94 (ix x3) x1) else h : td_H) 97 (ix x3)) = 0 then 1 else if (b2i (opn c (ix (h 92 (ix x3))) (ix (1 - (h 86 (ix ((10 + (3 * x3)) + 1))))) (ix (h 85 17)) = true)) = 0 then if ((if (b2i (opn c (ix (h 92 (ix x3))) (ix (1 - (h 86 (ix ((10 + (3 * x3)) + 1))))) (ix (h 85 17)) = true)) = 0 then h else if (if (h 86 (ix ((10 + (3 * x3)) + 2))) = 5 then if 2 ≤ (h 97 (ix x3)) then 0 else 1 else 0 : Int32) = 0 then (hu (hu h 91 (ix x3) 3) 94 (ix x3) x1) else h : td_H) 97 (ix x3)) = 1 then 2 else ((if (b2i (opn c (ix (h 92 (ix x3))) (ix (1 - (h 86 (ix ((10 + (3 * x3)) + 1))))) (ix (h 85 17)) = true)) = 0 then h else if (if (h 86 (ix ((10 + (3 * x3)) + 2))) = 5 then if 2 ≤ (h 97 (ix x3)) then 0 else 1 else 0 : Int32) = 0 then (hu (hu h 91 (ix x3) 3) 94 (ix x3) x1) else h : td_H) 97 (ix x3)) else ((if (b2i (opn c (ix (h 92 (ix x3))) (ix (1 - (h 86 (ix ((10 + (3 * x3)) + 1))))) (ix (h 85 17)) = true)) = 0 then h else if (if (h 86 (ix ((10 + (3 * x3)) + 2))) = 5 then if 2 ≤ (h 97 (ix x3)) then 0 else 1 else 0 : Int32) = 0 then (hu (hu h 91 (ix x3) 3) 94 (ix x3) x1) else h : td_H) 97 (ix x3)) : Int32) = _ from (if_neg q125).trans ((if_neg q134).trans ((if_pos q143).trans (if_pos q153)))]) rfl
            · skip
              refine td_iconst (v := 1) dX10_step_137 (by decide) ?_
              refine td_goto (tgt := 166) dX10_step_138 (by decide) ?_
              exact td_to KJ166 rfl (by rw [show (if (b2i (opn c (ix (h 92 (ix x3))) (ix (1 - (h 86 (ix ((10 + (3 * x3)) + 1))))) (ix (h 85 17)) = true)) = 0 then if (b2i (opn c (ix (h 92 (ix x3))) (ix (1 - (h 86 (ix ((10 + (3 * x3)) + 1))))) (ix (h 85 17)) = true)) = 0 then if ((if (b2i (opn c (ix (h 92 (ix x3))) (ix (1 - (h 86 (ix ((10 + (3 * x3)) + 1))))) (ix (h 85 17)) = true)) = 0 then h else if (if (h 86 (ix ((10 + (3 * x3)) + 2))) = 5 then if 2 ≤ (h 97 (ix x3)) then 0 else 1 else 0 : Int32) = 0 then (hu (hu h 91 (ix x3) 3) 94 (ix x3) x1) else h : td_H) 97 (ix x3)) = 1 then 2 else ((if (b2i (opn c (ix (h 92 (ix x3))) (ix (1 - (h 86 (ix ((10 + (3 * x3)) + 1))))) (ix (h 85 17)) = true)) = 0 then h else if (if (h 86 (ix ((10 + (3 * x3)) + 2))) = 5 then if 2 ≤ (h 97 (ix x3)) then 0 else 1 else 0 : Int32) = 0 then (hu (hu h 91 (ix x3) 3) 94 (ix x3) x1) else h : td_H) 97 (ix x3)) else ((if (b2i (opn c (ix (h 92 (ix x3))) (ix (1 - (h 86 (ix ((10 + (3 * x3)) + 1))))) (ix (h 85 17)) = true)) = 0 then h else if (if (h 86 (ix ((10 + (3 * x3)) + 2))) = 5 then if 2 ≤ (h 97 (ix x3)) then 0 else 1 else 0 : Int32) = 0 then (hu (hu h 91 (ix x3) 3) 94 (ix x3) x1) else h : td_H) 97 (ix x3)) else if ((if (b2i (opn c (ix (h 92 (ix x3))) (ix (1 - (h 86 (ix ((10 + (3 * x3)) + 1))))) (ix (h 85 17)) = true)) = 0 then h else if (if (h 86 (ix ((10 + (3 * x3)) + 2))) = 5 then if 2 ≤ (h 97 (ix x3)) then 0 else 1 else 0 : Int32) = 0 then (hu (hu h 91 (ix x3) 3) 94 (ix x3) x1) else h : td_H) 97 (ix x3)) = 0 then 1 else if (b2i (opn c (ix (h 92 (ix x3))) (ix (1 - (h 86 (ix ((10 + (3 * x3)) + 1))))) (ix (h 85 17)) = true)) = 0 then if ((if (b2i (opn c (ix (h 92 (ix x3))) (ix (1 - (h 86 (ix ((10 + (3 * x3)) + 1))))) (ix (h 85 17)) = true)) = 0 then h else if (if (h 86 (ix ((10 + (3 * x3)) + 2))) = 5 then if 2 ≤ (h 97 (ix x3)) then 0 else 1 else 0 : Int32) = 0 then (hu (hu h 91 (ix x3) 3) 94 (ix x3) x1) else h : td_H) 97 (ix x3)) = 1 then 2 else ((if (b2i (opn c (ix (h 92 (ix x3))) (ix (1 - (h 86 (ix ((10 + (3 * x3)) + 1))))) (ix (h 85 17)) = true)) = 0 then h else if (if (h 86 (ix ((10 + (3 * x3)) + 2))) = 5 then if 2 ≤ (h 97 (ix x3)) then 0 else 1 else 0 : Int32) = 0 then (hu (hu h 91 (ix x3) 3) 94 (ix x3) x1) else h : td_H) 97 (ix x3)) else ((if (b2i (opn c (ix (h 92 (ix x3))) (ix (1 - (h 86 (ix ((10 + (3 * x3)) + 1))))) (ix (h 85 17)) = true)) = 0 then h else if (if (h 86 (ix ((10 + (3 * x3)) + 2))) = 5 then if 2 ≤ (h 97 (ix x3)) then 0 else 1 else 0 : Int32) = 0 then (hu (hu h 91 (ix x3) 3) 94 (ix x3) x1) else h : td_H) 97 (ix x3)) : Int32) = _ from (if_neg q125).trans (if_pos q134)]) rfl
        refine td_if_eq (tgt := 118) dX10_step_104 (by decide) (fun q104 => ?_) (fun q104 => ?_)
        · skip
          exact td_to KJ118 rfl rfl (by rw [show (if (b2i (opn c (ix (h 92 (ix x3))) (ix (1 - (h 86 (ix ((10 + (3 * x3)) + 1))))) (ix (h 85 17)) = true)) = 0 then h else if (if (h 86 (ix ((10 + (3 * x3)) + 2))) = 5 then if 2 ≤ (h 97 (ix x3)) then 0 else 1 else 0 : Int32) = 0 then (hu (hu h 91 (ix x3) 3) 94 (ix x3) x1) else h : td_H) = _ from if_pos q104])
        · skip
          refine td_iload 5 dX10_step_107 rfl ?_
          refine td_if_ne (tgt := 118) dX10_step_109 (by decide) (fun q109 => ?_) (fun q109 => ?_)
          · skip
            exact td_to KJ118 rfl rfl (by rw [show (if (b2i (opn c (ix (h 92 (ix x3))) (ix (1 - (h 86 (ix ((10 + (3 * x3)) + 1))))) (ix (h 85 17)) = true)) = 0 then h else if (if (h 86 (ix ((10 + (3 * x3)) + 2))) = 5 then if 2 ≤ (h 97 (ix x3)) then 0 else 1 else 0 : Int32) = 0 then (hu (hu h 91 (ix x3) 3) 94 (ix x3) x1) else h : td_H) = _ from (if_neg q104).trans (if_neg q109)])
          · skip
            refine td_aload_n 0 dX10_step_112 rfl ?_
            refine td_iload_n 3 dX10_step_113 rfl ?_
            refine td_iload_n 1 dX10_step_114 rfl ?_
            refine cl_X10_182 rfl kp_85 dX10_step_115 (Nat.le_of_ble_eq_true rfl) (c_through x3 x1 e46) (eV_k ?_)
            refine td_eqs (st2 := []) rfl ?_
            exact td_to KJ118 rfl rfl (by rw [show (if (b2i (opn c (ix (h 92 (ix x3))) (ix (1 - (h 86 (ix ((10 + (3 * x3)) + 1))))) (ix (h 85 17)) = true)) = 0 then h else if (if (h 86 (ix ((10 + (3 * x3)) + 2))) = 5 then if 2 ≤ (h 97 (ix x3)) then 0 else 1 else 0 : Int32) = 0 then (hu (hu h 91 (ix x3) 3) 94 (ix x3) x1) else h : td_H) = _ from (if_neg q104).trans (if_pos q109)])
      refine td_icmp_ne (tgt := 99) dX10_step_82 (by decide) (fun q82 => ?_) (fun q82 => ?_)
      · skip
        refine td_iconst (v := 0) dX10_step_99 (by decide) ?_
        exact td_to KJ100 rfl (by rw [show (if (h 86 (ix ((10 + (3 * x3)) + 2))) = 5 then if 2 ≤ (h 97 (ix x3)) then 0 else 1 else 0 : Int32) = _ from if_neg q82]) rfl
      · skip
        refine td_aload_n 0 dX10_step_85 rfl ?_
        refine gf_X10_43 rfl kp_85 dX10_step_86 ?_
        refine td_iload_n 3 dX10_step_89 rfl ?_
        refine td_ialdc (j := (ix x3)) kp_97 (by decide) e46 rfl dX10_step_90 ?_
        refine td_iconst (v := 2) dX10_step_91 (by decide) ?_
        refine td_icmp_ge (tgt := 99) dX10_step_92 (by decide) (fun q92 => ?_) (fun q92 => ?_)
        · skip
          refine td_iconst (v := 0) dX10_step_99 (by decide) ?_
          exact td_to KJ100 rfl (by rw [show (if (h 86 (ix ((10 + (3 * x3)) + 2))) = 5 then if 2 ≤ (h 97 (ix x3)) then 0 else 1 else 0 : Int32) = _ from (if_pos q82).trans (if_pos q92)]) rfl
        · skip
          refine td_iconst (v := 1) dX10_step_95 (by decide) ?_
          refine td_goto (tgt := 100) dX10_step_96 (by decide) ?_
          exact td_to KJ100 rfl (by rw [show (if (h 86 (ix ((10 + (3 * x3)) + 2))) = 5 then if 2 ≤ (h 97 (ix x3)) then 0 else 1 else 0 : Int32) = _ from (if_pos q82).trans (if_neg q92)]) rfl
set_option maxRecDepth 20000 in
set_option maxHeartbeats 4000000 in
theorem gX10_step_175 {G : td_G} {d : Nat} {Post : td_P} {c σ : nH} {x1 x2 x3 : Int32} {h : td_H} (K : ((h 87 0) ≤ x3 → (Post none h)) ∧ (¬ (h 87 0) ≤ x3 → (rmC c h ∧ vp_in x3 4 ∧ vp_in 0 2 ∧ vp_in x2 12 ∧ ((¬ (b2i (opn c (ix x3) (ix 0) (ix x2) = true)) = 0 → (vp_in (h 85 17) 12 ∧ ((b2i (opn c (ix x3) (ix 0) (ix (h 85 17)) = true)) = 0 → (rmS σ h ∧ True)))) ∧ (td_J G (d + 3) mX10_step Post 175 [(0, .ref 85), (1, .int x1), (2, .int x2), (3, .int (x3 + 1))] [] (if (b2i (opn c (ix x3) (ix 0) (ix x2) = true)) = 0 then h else if (b2i (opn c (ix x3) (ix 0) (ix (h 85 17)) = true)) = 0 then (hu h 85 20 ((h 85 20) + (if (nI (c 0 2) - nI (used c σ (ix x3))) ≤ 0 then 0 else ((h 87 6) * (nI (c 0 2) - nI (used c σ (ix x3)))) : Int32))) else h : td_H)))))) : td_J G (d + 3) mX10_step Post 175 [(0, .ref 85), (1, .int x1), (2, .int x2), (3, .int x3)] [] h := by
  refine td_iload_n 3 dX10_step_175 rfl ?_
  refine td_aload_n 0 dX10_step_176 rfl ?_
  refine gf_X10_13 rfl kp_85 dX10_step_177 ?_
  refine td_iconst (v := 0) dX10_step_180 (by decide) ?_
  refine td_ialdc (j := 0) kp_87 (by decide) (by unfold vp_in; decide) (by decide) dX10_step_181 ?_
  obtain ⟨Kt, Kf⟩ := K
  refine td_icmp_ge (tgt := 248) dX10_step_182 (by decide) (fun q182 => ?_) (fun q182 => ?_)
  · have K := Kt q182
    exact td_return rfl dX10_step_248 K
  · have K := Kf q182
    refine td_aload_n 0 dX10_step_185 rfl ?_
    refine td_iload_n 3 dX10_step_186 rfl ?_
    refine td_iconst (v := 0) dX10_step_187 (by decide) ?_
    refine td_iload_n 2 dX10_step_188 rfl ?_
    obtain ⟨e189_0, K⟩ := K
    obtain ⟨e189_1, K⟩ := K
    obtain ⟨e189_2, K⟩ := K
    obtain ⟨e189_3, K⟩ := K
    refine cl_X10_107 rfl kp_85 dX10_step_189 (Nat.le_of_ble_eq_true rfl) (c_isOpen c x3 0 x2 e189_0 e189_1 e189_2 e189_3) (eR_k ?_)
    refine td_eqs (st2 := [.int (b2i (opn c (ix x3) (ix 0) (ix x2) = true))]) rfl ?_
    obtain ⟨Ks192, K⟩ := K
    have KJ242 : td_J G (d + 3) mX10_step Post 242 [(0, .ref 85), (1, .int x1), (2, .int x2), (3, .int x3)] [] (if (b2i (opn c (ix x3) (ix 0) (ix x2) = true)) = 0 then h else if (b2i (opn c (ix x3) (ix 0) (ix (h 85 17)) = true)) = 0 then (hu h 85 20 ((h 85 20) + (if (nI (c 0 2) - nI (used c σ (ix x3))) ≤ 0 then 0 else ((h 87 6) * (nI (c 0 2) - nI (used c σ (ix x3)))) : Int32))) else h : td_H) := by
      refine td_iinc 3 (v := x3 + 1) (lv2 := [(0, .ref 85), (1, .int x1), (2, .int x2), (3, .int (x3 + 1))]) dX10_step_242 rfl (congrArg (x3 + ·) (by decide)) (by decide) rfl ?_
      refine td_goto (tgt := 175) dX10_step_245 (by decide) ?_
      exact K
    refine td_if_eq (tgt := 242) dX10_step_192 (by decide) (fun q192 => ?_) (fun q192 => ?_)
    · skip
      exact td_to KJ242 rfl rfl (by rw [show (if (b2i (opn c (ix x3) (ix 0) (ix x2) = true)) = 0 then h else if (b2i (opn c (ix x3) (ix 0) (ix (h 85 17)) = true)) = 0 then (hu h 85 20 ((h 85 20) + (if (nI (c 0 2) - nI (used c σ (ix x3))) ≤ 0 then 0 else ((h 87 6) * (nI (c 0 2) - nI (used c σ (ix x3)))) : Int32))) else h : td_H) = _ from if_pos q192])
    · have K := Ks192 q192
      refine td_aload_n 0 dX10_step_195 rfl ?_
      refine td_iload_n 3 dX10_step_196 rfl ?_
      refine td_iconst (v := 0) dX10_step_197 (by decide) ?_
      refine td_aload_n 0 dX10_step_198 rfl ?_
      refine gf_X10_176 rfl kp_85 dX10_step_199 ?_
      obtain ⟨e202_3, K⟩ := K
      refine cl_X10_107 rfl kp_85 dX10_step_202 (Nat.le_of_ble_eq_true rfl) (c_isOpen c x3 0 (h 85 17) e189_0 e189_1 e189_2 e202_3) (eR_k ?_)
      refine td_eqs (st2 := [.int (b2i (opn c (ix x3) (ix 0) (ix (h 85 17)) = true))]) rfl ?_
      refine td_if_ne (tgt := 242) dX10_step_205 (by decide) (fun q205 => ?_) (fun q205 => ?_)
      · skip
        exact td_to KJ242 rfl rfl (by rw [show (if (b2i (opn c (ix x3) (ix 0) (ix x2) = true)) = 0 then h else if (b2i (opn c (ix x3) (ix 0) (ix (h 85 17)) = true)) = 0 then (hu h 85 20 ((h 85 20) + (if (nI (c 0 2) - nI (used c σ (ix x3))) ≤ 0 then 0 else ((h 87 6) * (nI (c 0 2) - nI (used c σ (ix x3)))) : Int32))) else h : td_H) = _ from (if_neg q192).trans (if_neg q205)])
      · have K := K q205
        refine td_aload_n 0 dX10_step_208 rfl ?_
        refine td_dup dX10_step_209 rfl ?_
        refine gf_X10_186 rfl kp_85 dX10_step_210 ?_
        refine td_aload_n 0 dX10_step_213 rfl ?_
        refine td_iload_n 3 dX10_step_214 rfl ?_
        obtain ⟨e215_1, K⟩ := K
        refine cl_X10_189 rfl kp_85 dX10_step_215 (Nat.le_of_ble_eq_true rfl) (c_roomOf c σ x3 e189_0 e215_1 e189_1) (eR_k ?_)
        refine td_eqs (st2 := [.int (nI (c 0 2) - nI (used c σ (ix x3))), .int (h 85 20), .ref 85]) rfl ?_
        have KJ238 : td_J G (d + 3) mX10_step Post 238 [(0, .ref 85), (1, .int x1), (2, .int x2), (3, .int x3)] [.int (if (nI (c 0 2) - nI (used c σ (ix x3))) ≤ 0 then 0 else ((h 87 6) * (nI (c 0 2) - nI (used c σ (ix x3)))) : Int32), .int (h 85 20), .ref 85] h := by
          refine td_iadd dX10_step_238 ?_
          refine pf_X10_186 rfl kp_85 dX10_step_239 ?_
          exact td_to KJ242 rfl rfl (by rw [show (if (b2i (opn c (ix x3) (ix 0) (ix x2) = true)) = 0 then h else if (b2i (opn c (ix x3) (ix 0) (ix (h 85 17)) = true)) = 0 then (hu h 85 20 ((h 85 20) + (if (nI (c 0 2) - nI (used c σ (ix x3))) ≤ 0 then 0 else ((h 87 6) * (nI (c 0 2) - nI (used c σ (ix x3)))) : Int32))) else h : td_H) = _ from (if_neg q192).trans (if_pos q205)])
        refine td_if_le (tgt := 237) dX10_step_218 (by decide) (fun q218 => ?_) (fun q218 => ?_)
        · skip
          refine td_iconst (v := 0) dX10_step_237 (by decide) ?_
          exact td_to KJ238 rfl (by rw [show (if (nI (c 0 2) - nI (used c σ (ix x3))) ≤ 0 then 0 else ((h 87 6) * (nI (c 0 2) - nI (used c σ (ix x3)))) : Int32) = _ from if_pos q218]) rfl
        · skip
          refine td_aload_n 0 dX10_step_221 rfl ?_
          refine gf_X10_13 rfl kp_85 dX10_step_222 ?_
          refine td_bipush (v := 6) dX10_step_225 (by decide) ?_
          refine td_ialdc (j := 6) kp_87 (by decide) (by unfold vp_in; decide) (by decide) dX10_step_227 ?_
          refine td_aload_n 0 dX10_step_228 rfl ?_
          refine td_iload_n 3 dX10_step_229 rfl ?_
          refine cl_X10_189 rfl kp_85 dX10_step_230 (Nat.le_of_ble_eq_true rfl) (c_roomOf c σ x3 e189_0 e215_1 e189_1) (eR_k ?_)
          refine td_eqs (st2 := [.int (nI (c 0 2) - nI (used c σ (ix x3))), .int (h 87 6), .int (h 85 20), .ref 85]) rfl ?_
          refine td_imul dX10_step_233 ?_
          refine td_goto (tgt := 238) dX10_step_234 (by decide) ?_
          exact td_to KJ238 rfl (by rw [show (if (nI (c 0 2) - nI (used c σ (ix x3))) ≤ 0 then 0 else ((h 87 6) * (nI (c 0 2) - nI (used c σ (ix x3)))) : Int32) = _ from if_neg q218]) rfl
theorem c_step {G : td_G} {d : Nat} {h : td_H} (c σ : nH) (x : Int32) (hc : rmC c h) (hs : rmS σ h) (hx : vp_in x 120) : td_C G (d + 3) mX10_step [.ref 85, .int x] h (fun r h1 => r = none ∧ Fr h h1 ∧ rmS (sStep c (ix x) σ) h1) := by
  obtain ⟨t, ht, rfl⟩ := vp_in_of hx (by decide)
  rw [ixn (by omega)]
  have hn := hc.1.n
  have e9 := hc.2.2.1
  obtain ⟨⟨t1, t2⟩, ⟨p1, p2⟩, ⟨s1, s2⟩, w1, w2, w3⟩ := hs.2
  have hw : 12 / c 0 0 ≤ 4 := by
    have := hc.1.1
    rcases (by omega : c 0 0 = 3 ∨ c 0 0 = 4) with z | z <;> rw [z] <;> decide
  refine td_entry rfl (Nat.le_of_ble_eq_true rfl) rfl (gX10_step_0 ?_)
  have et : jrem (h 85 17 + 1) 12 = nI ((σ 8 0 + 1) % 12) := by
    rw [t1, nI_1]
    exact jrem_n (b := 12) (by omega) (by decide) (by decide)
  rw [et, t1]
  have eh : hu h 85 17 (nI ((σ 8 0 + 1) % 12)) 85 21 + 1 = nI (σ 8 4 + 1) := by
    rw [hu_app, if_neg (by omega), w2, nI_1]
  rw [eh]
  have hS1 : rmS (sTurn σ) (hu (hu h 85 17 (nI ((σ 8 0 + 1) % 12))) 85 21 (nI (σ 8 4 + 1))) := by
    have z := (hs.turn (v := (σ 8 0 + 1) % 12) (by omega)).steps (σ 8 4 + 1)
    exact z
  have hF1 : Fr h (hu (hu h 85 17 (nI ((σ 8 0 + 1) % 12))) 85 21 (nI (σ 8 4 + 1))) := ((Fr.rf h).put (by unfold simP; omega) _).put (by unfold simP; omega) _
  have hwas : (sTurn σ) 8 3 = σ 8 3 := by simp [sTurn, nu_app]
  generalize hu (hu h 85 17 (nI ((σ 8 0 + 1) % 12))) 85 21 (nI (σ 8 4 + 1)) = H1 at hS1 hF1 ⊢
  have hstep : sStep c t σ = nu (sOut c t (sTurn σ) (c 1 0)) 8 3 (σ 8 3 + lossS c (sOut c t (sTurn σ) (c 1 0)) (σ 8 0) (c 0 0)) := rfl
  rw [hstep]
  generalize sTurn σ = σ1 at hS1 hwas ⊢
  clear hstep
  refine td_forH (c 1 0) (fun k => [(0, .ref 85), (1, .int (nI t)), (2, .int (nI (σ 8 0))), (3, .int (nI k))]) (fun k h' => Fr h h' ∧ rmS (sOut c t σ1 k) h') rfl ⟨hF1, by rw [sOut_0]; exact hS1⟩ (fun k hk h' hP ih => ?_) (fun h' hP => ?_)
  · obtain ⟨hF, hS⟩ := hP
    have hc' := hF.C hc
    have hk12 : k < 12 := by omega
    have e9' := hc'.2.2.1
    obtain ⟨⟨g1, g2⟩, g3, -, -, -, -, ⟨g7, g8⟩, -⟩ := hS.1 k hk12
    rw [sOut_at] at g1 g2 g3 g7 g8
    rw [sOut_at] at g3
    obtain ⟨⟨k1, k2⟩, -⟩ := hS.2
    rw [sOut_8] at k1 k2
    have hpk := hc.1.p hk
    have f3 := of_1 hc' hk
    have f4 := of_2 hc' hk
    have f5 : 1 - nI (c 2 k) = nI (1 - c 2 k) := pk_sub (a := 1) (by omega)
    have v1 : vp_in (10 + 3 * nI k + 1) 46 := of_in hk12 (w := 1) (by decide)
    have v2 : vp_in (10 + 3 * nI k + 2) 46 := of_in hk12 (w := 2) (by decide)
    have ek : ix (nI k) = k := ixn (by omega)
    refine gX10_step_30 (c := c) ⟨fun q => absurd (le_of (by rw [e9'] at q; exact q)) (by omega), fun _ => ⟨vp_in_nI hk12 (by decide), fun q => ⟨v1, hc', ?_, ?_, ?_, v2, trivial⟩, ?_⟩⟩
    · rw [ek] at q ⊢
      obtain ⟨y1, y2⟩ := g3 (eq_of (b := 2) (by rw [g1] at q; exact q))
      rw [y1]
      exact vp_in_nI y2 (by decide)
    · rw [f3, f5]
      exact vp_in_nI (by omega) (by decide)
    · rw [k1]
      exact vp_in_nI k2 (by decide)
    · refine td_to (ih _ ?_) (by rw [nI_1]) rfl rfl
      by_cases q : σ1 0 k = 2
      · obtain ⟨y1, y2⟩ := g3 q
        have f1 : h' 91 k = 2 := by rw [g1, q]; rfl
        have f6 : ix (nI (σ1 1 k)) = σ1 1 k := ixn (by omega)
        have f7 : ix (nI (1 - c 2 k)) = 1 - c 2 k := ixn (by omega)
        have f8 : ix (nI (σ1 8 0)) = σ1 8 0 := ixn (by omega)
        have f9 : (nI (c 3 k) = 5) = (c 3 k = 5) := propext (nI_eq (b := 5) (by omega) (by decide))
        have f10 : ((2 : Int32) ≤ nI (σ1 6 k)) = (2 ≤ σ1 6 k) := propext (nI_leI (a := 2) (by decide) (by omega))
        have f11 : (nI (σ1 6 k) = 0) = (σ1 6 k = 0) := propext (nI_eq (b := 0) (by omega) (by decide))
        have f12 : (nI (σ1 6 k) = 1) = (σ1 6 k = 1) := propext (nI_eq (b := 1) (by omega) (by decide))
        by_cases qo : opn c (σ1 1 k) (1 - c 2 k) (σ1 8 0) = true
        · have o1 : b2i (opn c (σ1 1 k) (1 - c 2 k) (σ1 8 0) = true) = 1 := b2i_t qo
          by_cases qg : goesO c σ1 k = true
          · have qd : ¬ (c 3 k = 5 ∧ ¬ 2 ≤ σ1 6 k) := by
              intro z
              have := qg
              unfold goesO at this
              simp [z.1] at this
              omega
            rw [sOut_go c t σ1 k q qg]
            refine byX (fun X => Fr h X ∧ rmS (nu (nu (nu (sOut c t σ1 k) 0 k 3) 3 k t) 6 k (dazN c σ1 k)) X) (hu (hu (hu h' 91 k (nI 3)) 94 k (nn t)) 97 k (nI (dazN c σ1 k))) ?_ ⟨((hF.put (by unfold simP; omega) _).put (by unfold simP; omega) _).put (by unfold simP; omega) _, ((hS.st k (by decide) (by decide)).thr k t).daz k (by unfold dazN; split; decide; split; decide; exact g8)⟩
            have d5 : (if c 3 k = 5 then if 2 ≤ σ1 6 k then 0 else 1 else 0 : Int32) = 0 := by
              by_cases z5 : c 3 k = 5
              · rw [if_pos z5, if_pos (Classical.byContradiction fun y => qd ⟨z5, y⟩)]
              · rw [if_neg z5]
            have r97 : hu (hu h' 91 k 3) 94 k (nI t) 97 k = nI (σ1 6 k) := by rw [hu_app, if_neg (by omega), hu_app, if_neg (by omega), g7]
            simp only [ek, f1, f3, f4, f5, y1, k1, f6, f7, f8, o1, f9, f10, g7, d5, n1e, if_true, if_false, r97, f11, f12]
            rw [nn_t ht]
            refine congrArg (hu (hu (hu h' 91 k 3) 94 k (nI t)) 97 k) ?_
            unfold dazN
            by_cases z0 : σ1 6 k = 0
            · rw [if_pos z0, if_pos ⟨qo, z0⟩]; rfl
            · rw [if_neg z0, if_neg (fun y => z0 y.2), if_neg (fun y => by rw [qo] at y; cases y.1)]
          · have d5 : (if c 3 k = 5 then if 2 ≤ σ1 6 k then 0 else 1 else 0 : Int32) = 1 := by
              have z5 : c 3 k = 5 ∧ ¬ 2 ≤ σ1 6 k := by
                unfold goesO atM at qg
                simp [q, qo] at qg
                omega
              rw [if_pos z5.1, if_neg z5.2]
            rw [sOut_st c t σ1 k q qg]
            refine byX (fun X => Fr h X ∧ rmS (nu (sOut c t σ1 k) 6 k (dazN c σ1 k)) X) (hu h' 97 k (nI (dazN c σ1 k))) ?_ ⟨hF.put (by unfold simP; omega) _, hS.daz k (by unfold dazN; split; decide; split; decide; exact g8)⟩
            simp only [ek, f1, f3, f4, f5, y1, k1, f6, f7, f8, o1, f9, f10, g7, d5, n1e, if_true, if_false, f11, f12]
            refine congrArg (hu h' 97 k) ?_
            unfold dazN
            by_cases z0 : σ1 6 k = 0
            · rw [if_pos z0, if_pos ⟨qo, z0⟩]; rfl
            · rw [if_neg z0, if_neg (fun y => z0 y.2), if_neg (fun y => by rw [qo] at y; cases y.1)]
        · have o1 : b2i (opn c (σ1 1 k) (1 - c 2 k) (σ1 8 0) = true) = 0 := b2i_f qo
          have qg : ¬ goesO c σ1 k = true := by unfold goesO atM; simp [qo]
          have qof : opn c (σ1 1 k) (1 - c 2 k) (σ1 8 0) = false := by simpa using qo
          rw [sOut_st c t σ1 k q qg]
          refine byX (fun X => Fr h X ∧ rmS (nu (sOut c t σ1 k) 6 k (dazN c σ1 k)) X) (hu h' 97 k (nI (dazN c σ1 k))) ?_ ⟨hF.put (by unfold simP; omega) _, hS.daz k (by unfold dazN; split; decide; split; decide; exact g8)⟩
          simp only [ek, f1, f3, f4, f5, y1, k1, f6, f7, f8, o1, if_true, g7, f11, f12]
          refine congrArg (hu h' 97 k) ?_
          unfold dazN
          by_cases z1 : σ1 6 k = 1
          · rw [if_pos z1, if_neg (fun y => qo y.1), if_pos ⟨qof, z1⟩]; rfl
          · rw [if_neg z1, if_neg (fun y => qo y.1), if_neg (fun y => z1 y.2)]
      · rw [ek, g1, if_neg (show ¬ nI (σ1 0 k) = 2 from fun z => q (eq_of (b := 2) z)), sOut_no c t σ1 k q]
        exact ⟨hF, hS⟩
  · obtain ⟨hF, hS⟩ := hP
    have hc' := hF.C hc
    have e9' := hc'.2.2.1
    refine gX10_step_30 (c := c) ⟨fun _ => ?_, fun q => absurd (nle_of (by rw [e9'] at q; exact q)) (by omega)⟩
    have h83 : (sOut c t σ1 (c 1 0)) 8 3 = σ 8 3 := by rw [sOut_8]; exact hwas
    generalize sOut c t σ1 (c 1 0) = σ2 at hS h83 ⊢
    refine td_forH (c 0 0) (fun k => [(0, .ref 85), (1, .int (nI t)), (2, .int (nI (σ 8 0))), (3, .int (nI k))]) (fun k h' => Fr h h' ∧ rmS (nu σ2 8 3 (σ 8 3 + lossS c σ2 (σ 8 0) k)) h') rfl ⟨hF, ?_⟩ (fun k hk h2 hP ih => ?_) (fun h2 hP => ?_)
    · have e : nu σ2 8 3 (σ 8 3 + lossS c σ2 (σ 8 0) 0) = σ2 := by
        funext a b
        rw [nu_app]
        split
        · rename_i z
          rw [z.1, z.2, h83]
          rfl
        · rfl
      rw [e]
      exact hS
    · obtain ⟨hF2, hS2⟩ := hP
      have hc2 := hF2.C hc
      have e0 : h2 87 0 = nI (c 0 0) := hc2.2.1 0 (by decide)
      have e6 : h2 87 6 = nI (c 0 6) := hc2.2.1 6 (by decide)
      have hL := hc.1.1
      have vk : vp_in (nI k) 4 := vp_in_nI (by omega) (by decide)
      obtain ⟨⟨k1, k2⟩, -, -, k4, -⟩ := hS2.2
      have k1' : h2 85 17 = nI (σ2 8 0) := by rw [k1]; simp [nu_app]
      have k2' : σ2 8 0 < 12 := by have := k2; simpa [nu_app] using this
      have k4' : h2 85 20 = nI (σ 8 3 + lossS c σ2 (σ 8 0) k) := by rw [k4]; simp [nu_app]
      have ek : ix (nI k) = k := ixn (by omega)
      have ew : ix (nI (σ 8 0)) = σ 8 0 := ixn (by omega)
      have ew2 : ix (nI (σ2 8 0)) = σ2 8 0 := ixn (by omega)
      have e00 : ix 0 = 0 := by decide
      refine gX10_step_175 (c := c) (σ := nu σ2 8 3 (σ 8 3 + lossS c σ2 (σ 8 0) k)) ⟨fun q => absurd (le_of (by rw [e0] at q; exact q)) (by omega), fun _ => ⟨hc2, vk, by unfold vp_in; decide, vp_in_nI (by omega) (by decide), fun _ => ⟨by rw [k1']; exact vp_in_nI k2' (by decide), fun _ => ⟨hS2, trivial⟩⟩, ?_⟩⟩
      refine td_to (ih _ ?_) (by rw [nI_1]) rfl rfl
      have hu36 := used_le c σ2 k hc.1.n
      have hcd := hc.1.2.2.2.2.2.2.1
      have hrm := hc.1.2.2.1
      rw [used_nu8, ek, ew, e00, k1', ew2, k4', e6, b2i_ite, b2i_ite, lossS_succ]
      by_cases q1 : opn c k 0 (σ 8 0) = true
      · by_cases q2 : opn c k 0 (σ2 8 0) = true
        · rw [if_pos q1, if_pos q2, if_neg (by simp [q2]), Nat.add_zero]
          exact ⟨hF2, hS2⟩
        · have q2f : opn c k 0 (σ2 8 0) = false := by simpa using q2
          have eX : (nI (σ 8 3 + lossS c σ2 (σ 8 0) k) + (if nI (c 0 2) - nI (used c σ2 k) ≤ 0 then 0 else nI (c 0 6) * (nI (c 0 2) - nI (used c σ2 k)))) = nI (σ 8 3 + (lossS c σ2 (σ 8 0) k + c 0 6 * (c 0 2 - used c σ2 k))) := by
            by_cases y : c 0 2 ≤ used c σ2 k
            · rw [if_pos ((sub_le0 (by omega) (by omega)).mpr y), Nat.sub_eq_zero_of_le y, Nat.mul_zero, Nat.add_zero]
              exact nI_add _ 0
            · rw [if_neg (fun z => y ((sub_le0 (by omega) (by omega)).mp z)), pk_sub (by omega), pk_mul, nI_add, Nat.add_assoc]
          rw [if_pos q1, if_neg q2, eX, if_pos (by simp [q1, q2f])]
          refine ⟨hF2.put (by unfold simP; omega) _, ?_⟩
          have z := hS2.warm (σ 8 3 + (lossS c σ2 (σ 8 0) k + c 0 6 * (c 0 2 - used c σ2 k)))
          have e : nu (nu σ2 8 3 (σ 8 3 + lossS c σ2 (σ 8 0) k)) 8 3 (σ 8 3 + (lossS c σ2 (σ 8 0) k + c 0 6 * (c 0 2 - used c σ2 k))) = nu σ2 8 3 (σ 8 3 + (lossS c σ2 (σ 8 0) k + c 0 6 * (c 0 2 - used c σ2 k))) := by
            funext a b
            simp only [nu_app]
            split <;> rfl
          rw [e] at z
          exact z
      · rw [if_neg q1, if_neg (by simp [q1]), Nat.add_zero]
        exact ⟨hF2, hS2⟩
    · obtain ⟨hF2, hS2⟩ := hP
      have hc2 := hF2.C hc
      have e0 : h2 87 0 = nI (c 0 0) := hc2.2.1 0 (by decide)
      have hL := hc.1.1
      exact gX10_step_175 (c := c) (σ := σ) ⟨fun _ => ⟨rfl, hF2, hS2⟩, fun q => absurd (nle_of (by rw [e0] at q; exact q)) (by omega)⟩
