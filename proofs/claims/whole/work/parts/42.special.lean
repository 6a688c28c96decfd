def copyH (h : td_H) (q0 q1 N : Nat) : td_H := fun a b => if a = q1 ∧ b < N then h q0 b else h a b
theorem td_copy {G : td_G} {d : Nat} {M : td_M} {Post : td_P} {pc : Nat} {lv : List (Nat × Value)} {st : List Value} {h : td_H} {own : String} {q0 q1 n0 n1 N index : Nat} {n : Int32} (hM : M.1.cls = own) (hn : n = nI N) (hk0 : td_kd q0 = 100 + n0) (hk1 : td_kd q1 = 100 + n1) (hN0 : N ≤ n0) (hN1 : N ≤ n1) (hb : n0 < 800 ∧ n1 < 800) (w1 : Cond.methodLink own index arraycopyName ∈ td_all) (hd : decode M.2.1 pc = .ok (.invokestatic index, 3)) (hst : (st.map fun v => v.category).sum ≤ 8) (kk : td_J G (d + 1) M Post (pc + 3) lv st (copyH h q0 q1 N)) : td_J G (d + 1) M Post pc lv (.int n :: .int 0 :: .ref q1 :: .int 0 :: .ref q0 :: st) h := by
  intro p e s m args below meth c H locs ls X
  have X0 := X
  subst hn
  subst hM
  have hl := X.lh.1
  obtain ⟨a1, a2, a3, a4, a5, a6, a7, a8, a9, a10, a11, a12, a13⟩ := X
  have hK0 := td_kd_lt hk0 (by omega)
  have hK1 := td_kd_lt hk1 (by omega)
  have he0 := td_ws_get G h hK0
  have he1 := td_ws_get G h hK1
  rw [td_Earr hk0] at he0
  rw [td_Earr hk1] at he1
  have eN : (nI N).toNatClampNeg = N := nI_clamp (by omega)
  have e0 : (0 : Int32).toNatClampNeg = 0 := rfl
  have ec : va_cpy (h q0) (h q1) 0 0 N = copyH h q0 q1 N q1 := by
    funext k
    unfold va_cpy copyH
    rw [Nat.zero_add, Nat.zero_add, Nat.sub_zero]
    by_cases z : k < N
    · rw [if_pos ⟨Nat.zero_le _, z⟩, if_pos ⟨rfl, z⟩]
    · rw [if_neg (fun y => z y.2), if_neg (fun y => z y.2)]
  have eo : copyH h q0 q1 N = va_up h q1 (copyH h q0 q1 N q1) := by
    funext a
    unfold va_up
    by_cases z : a = q1
    · rw [if_pos z, z]
    · rw [if_neg z]
      funext b
      unfold copyH
      rw [if_neg (fun y => z y.1)]
  have e2 : (td_ws G h).set q1 (td_ad G q1, Sum.inl (G.2.2.1, n1, Sum.inl (copyH h q0 q1 N q1))) = td_ws G (copyH h q0 q1 N) := by
    have z := td_ws_set G h (copyH h q0 q1 N q1) hK1
    rw [← eo] at z
    rw [← z, td_Earr hk1]
  refine va_copyi a1 a2 (a4.trans hl.symm) a5 (a6 _ w1) (a6 _ (td_in 144 (by decide +kernel) rfl)) (a6 _ (td_in 143 (by decide +kernel) rfl)) (a6 _ (td_in 108 (by decide +kernel) rfl)) a8.1 a10 a11 a12 q0 q1 0 0 he0 he1 rfl rfl rfl (sp := 0) (dp := 0) (n := nI N) (by decide) (by decide) (nI_pos (by omega)) (by rw [eN, e0]; omega) (by rw [eN, e0]; omega) (fun i _ => rfl) (by show 1 ≤ d + 1; omega) ?_ hd (fun H1 locs1 hP hD hS => ?_)
  · have z : nativeFrameWords "java/lang/System" "arraycopy" 5 ≤ 20 := by decide +kernel
    show _ ≤ 40 * (d + 1)
    have := td_cat (G := G) st
    rw [this]
    omega
  · rw [eN, e0, ec, e2] at hP hD
    exact kk p e s m args below meth c H1 locs1 ls (X0.put hP hD hS)
theorem cm_X2_43 {G : td_G} {d : Nat} {M : td_M} {Post : td_P} {pc : Nat} {lv : List (Nat × Value)} {st : List Value} {h : td_H} {x y : Int32} (hM : M.1.cls = RX2) (hd : decode M.2.1 pc = .ok (.invokestatic 43, 3)) (hst : (st.map fun v => v.category).sum ≤ 8) (kk : td_J G (d + 1) M Post (pc + 3) lv (.int (if x < y then y else x) :: st) h) : td_J G (d + 1) M Post pc lv (.int y :: .int x :: st) h := by
  intro p e s m args below meth c H locs ls X
  have kk := kk p e s m args below meth c H locs ls X
  have hl := X.lh.1
  obtain ⟨a1, a2, a3, a4, a5, a6, a7, a8, a9, a10, a11, a12, a13⟩ := X
  refine va_mmax a1 a2 (a4.trans hl.symm) (own := M.1.cls) (index := 43) a5 (a6 _ (by rw [hM]; exact td_in 879 (by decide +kernel) rfl)) (a6 _ (td_in 659 (by decide +kernel) rfl)) (a6 _ (td_in 118 (by decide +kernel) rfl)) (a6 _ (td_in 660 (by decide +kernel) rfl)) (by show 1 ≤ d + 1; omega) ?_ (Nat.le_refl _) (Nat.le_refl _) hd kk
  show _ ≤ 40 * (d + 1)
  have := td_cat (G := G) st
  rw [this]
  omega
theorem cc_X4_57 {G : td_G} {d : Nat} {M : td_M} {Post : td_P} {pc : Nat} {lv : List (Nat × Value)} {st : List Value} {h : td_H} {q0 q1 n0 n1 N : Nat} {n : Int32} (hM : M.1.cls = RX4) (hn : n = nI N) (hk0 : td_kd q0 = 100 + n0) (hk1 : td_kd q1 = 100 + n1) (hN0 : N ≤ n0) (hN1 : N ≤ n1) (hb : n0 < 800 ∧ n1 < 800) (hd : decode M.2.1 pc = .ok (.invokestatic 57, 3)) (hst : (st.map fun v => v.category).sum ≤ 8) (kk : td_J G (d + 1) M Post (pc + 3) lv st (copyH h q0 q1 N)) : td_J G (d + 1) M Post pc lv (.int n :: .int 0 :: .ref q1 :: .int 0 :: .ref q0 :: st) h := td_copy hM hn hk0 hk1 hN0 hN1 hb (td_in 977 (by decide +kernel) rfl) hd hst kk
theorem cc_X5_27 {G : td_G} {d : Nat} {M : td_M} {Post : td_P} {pc : Nat} {lv : List (Nat × Value)} {st : List Value} {h : td_H} {q0 q1 n0 n1 N : Nat} {n : Int32} (hM : M.1.cls = RX5) (hn : n = nI N) (hk0 : td_kd q0 = 100 + n0) (hk1 : td_kd q1 = 100 + n1) (hN0 : N ≤ n0) (hN1 : N ≤ n1) (hb : n0 < 800 ∧ n1 < 800) (hd : decode M.2.1 pc = .ok (.invokestatic 27, 3)) (hst : (st.map fun v => v.category).sum ≤ 8) (kk : td_J G (d + 1) M Post (pc + 3) lv st (copyH h q0 q1 N)) : td_J G (d + 1) M Post pc lv (.int n :: .int 0 :: .ref q1 :: .int 0 :: .ref q0 :: st) h := td_copy hM hn hk0 hk1 hN0 hN1 hb (td_in 142 (by decide +kernel) rfl) hd hst kk
theorem cm_X7_55 {G : td_G} {d : Nat} {M : td_M} {Post : td_P} {pc : Nat} {lv : List (Nat × Value)} {st : List Value} {h : td_H} {x y : Int32} (hM : M.1.cls = RX7) (hd : decode M.2.1 pc = .ok (.invokestatic 55, 3)) (hst : (st.map fun v => v.category).sum ≤ 8) (kk : td_J G (d + 1) M Post (pc + 3) lv (.int (if y < x then y else x) :: st) h) : td_J G (d + 1) M Post pc lv (.int y :: .int x :: st) h := by
  intro p e s m args below meth c H locs ls X
  have kk := kk p e s m args below meth c H locs ls X
  have hl := X.lh.1
  obtain ⟨a1, a2, a3, a4, a5, a6, a7, a8, a9, a10, a11, a12, a13⟩ := X
  refine va_mmin a1 a2 (a4.trans hl.symm) (own := M.1.cls) (index := 55) a5 (a6 _ (by rw [hM]; exact td_in 614 (by decide +kernel) rfl)) (a6 _ (td_in 615 (by decide +kernel) rfl)) (a6 _ (td_in 118 (by decide +kernel) rfl)) (a6 _ (td_in 616 (by decide +kernel) rfl)) (by show 1 ≤ d + 1; omega) ?_ (Nat.le_refl _) (Nat.le_refl _) hd kk
  show _ ≤ 40 * (d + 1)
  have := td_cat (G := G) st
  rw [this]
  omega
