/-! Model: stepping in -/
theorem ms_or1 {f : Nat → Bool} {q : Nat} (hq : q < 12) (b : Bool) : ms f ||| (if b2i (b = true) = 0 then 0 else jshl 1 (nI q)) = ms (fun j => f j || (b && decide (j = q))) := by
  rw [b2i_ite]
  by_cases z : b = true
  · rw [if_pos z, ms_one hq, ms_or]
    exact ms_ext (fun i _ => by simp [z])
  · rw [if_neg z, show (0 : Int32) = ms (fun _ => false) from ms_none.symm, ms_or]
    exact ms_ext (fun i _ => by simp [z])
set_option maxRecDepth 20000 in
set_option maxHeartbeats 4000000 in
theorem gX10_stepIn_0 {G : td_G} {d : Nat} {Post : td_P} {c σ : nH} {x1 x2 x3 : Int32} {h : td_H} (K : vp_in ((10 + (3 * x1)) + 2) 46 ∧ (rmC c h ∧ rmS σ h ∧ vp_in x2 4 ∧ (vp_in x1 12 ∧ (td_J G (d + 2) mX10_stepIn Post 71 [(0, .ref 85), (1, .int x1), (2, .int x2), (3, .int x3), (4, .int (h 86 (ix ((10 + (3 * x1)) + 2)))), (5, .int (ms (inP c σ (ix x2)))), (6, .int 0)] [] (hu (hu (hu (hu (hu (hu h 91 (ix x1) 2) 92 (ix x1) x2) 93 (ix x1) x3) 95 (ix x1) (x3 - ((hu (hu (hu h 91 (ix x1) 2) 92 (ix x1) x2) 93 (ix x1) x3) 88 (ix x1)))) 97 (ix x1) 0) 98 (ix x1) (((hu (hu (hu (hu (hu h 91 (ix x1) 2) 92 (ix x1) x2) 93 (ix x1) x3) 95 (ix x1) (x3 - ((hu (hu (hu h 91 (ix x1) 2) 92 (ix x1) x2) 93 (ix x1) x3) 88 (ix x1)))) 97 (ix x1) 0) 98 (ix x1)) ||| (ms (inP c σ (ix x2))))))))) : td_J G (d + 2) mX10_stepIn Post 0 [(0, .ref 85), (1, .int x1), (2, .int x2), (3, .int x3)] [] h := by
  refine td_aload_n 0 dX10_stepIn_0 rfl ?_
  refine td_iload_n 1 dX10_stepIn_1 rfl ?_
  refine td_iconst (v := 2) dX10_stepIn_2 (by decide) ?_
  obtain ⟨e3_0, K⟩ := K
  refine cl_X10_94 rfl kp_85 dX10_stepIn_3 (Nat.le_of_ble_eq_true rfl) (c_of x1 2 e3_0) (eR_k ?_)
  refine td_eqs (st2 := [.int (h 86 (ix ((10 + (3 * x1)) + 2)))]) rfl ?_
  refine td_istore (lv2 := [(0, .ref 85), (1, .int x1), (2, .int x2), (3, .int x3), (4, .int (h 86 (ix ((10 + (3 * x1)) + 2))))]) dX10_stepIn_6 (by decide) rfl ?_
  refine td_aload_n 0 dX10_stepIn_8 rfl ?_
  refine td_iload_n 2 dX10_stepIn_9 rfl ?_
  obtain ⟨e10_0, K⟩ := K
  obtain ⟨e10_1, K⟩ := K
  obtain ⟨e10_2, K⟩ := K
  refine cl_X10_163 rfl kp_85 dX10_stepIn_10 (Nat.le_of_ble_eq_true rfl) (c_insideOf c σ x2 e10_0 e10_1 e10_2) (eR_k ?_)
  refine td_eqs (st2 := [.int (ms (inP c σ (ix x2)))]) rfl ?_
  refine td_istore (lv2 := [(0, .ref 85), (1, .int x1), (2, .int x2), (3, .int x3), (4, .int (h 86 (ix ((10 + (3 * x1)) + 2)))), (5, .int (ms (inP c σ (ix x2))))]) dX10_stepIn_13 (by decide) rfl ?_
  refine td_aload_n 0 dX10_stepIn_15 rfl ?_
  refine gf_X10_25 rfl kp_85 dX10_stepIn_16 ?_
  refine td_iload_n 1 dX10_stepIn_19 rfl ?_
  refine td_iconst (v := 2) dX10_stepIn_20 (by decide) ?_
  obtain ⟨e21, K⟩ := K
  refine td_iastc (j := (ix x1)) kp_91 (by decide) e21 rfl dX10_stepIn_21 ?_
  refine td_aload_n 0 dX10_stepIn_22 rfl ?_
  refine gf_X10_28 rfl kp_85 dX10_stepIn_23 ?_
  refine td_iload_n 1 dX10_stepIn_26 rfl ?_
  refine td_iload_n 2 dX10_stepIn_27 rfl ?_
  refine td_iastc (j := (ix x1)) kp_92 (by decide) e21 rfl dX10_stepIn_28 ?_
  refine td_aload_n 0 dX10_stepIn_29 rfl ?_
  refine gf_X10_31 rfl kp_85 dX10_stepIn_30 ?_
  refine td_iload_n 1 dX10_stepIn_33 rfl ?_
  refine td_iload_n 3 dX10_stepIn_34 rfl ?_
  refine td_iastc (j := (ix x1)) kp_93 (by decide) e21 rfl dX10_stepIn_35 ?_
  refine td_aload_n 0 dX10_stepIn_36 rfl ?_
  refine gf_X10_37 rfl kp_85 dX10_stepIn_37 ?_
  refine td_iload_n 1 dX10_stepIn_40 rfl ?_
  refine td_iload_n 3 dX10_stepIn_41 rfl ?_
  refine td_aload_n 0 dX10_stepIn_42 rfl ?_
  refine gf_X10_16 rfl kp_85 dX10_stepIn_43 ?_
  refine td_iload_n 1 dX10_stepIn_46 rfl ?_
  refine td_ialdc (j := (ix x1)) kp_88 (by decide) e21 rfl dX10_stepIn_47 ?_
  refine td_isub dX10_stepIn_48 ?_
  refine td_iastc (j := (ix x1)) kp_95 (by decide) e21 rfl dX10_stepIn_49 ?_
  refine td_aload_n 0 dX10_stepIn_50 rfl ?_
  refine gf_X10_43 rfl kp_85 dX10_stepIn_51 ?_
  refine td_iload_n 1 dX10_stepIn_54 rfl ?_
  refine td_iconst (v := 0) dX10_stepIn_55 (by decide) ?_
  refine td_iastc (j := (ix x1)) kp_97 (by decide) e21 rfl dX10_stepIn_56 ?_
  refine td_aload_n 0 dX10_stepIn_57 rfl ?_
  refine gf_X10_46 rfl kp_85 dX10_stepIn_58 ?_
  refine td_iload_n 1 dX10_stepIn_61 rfl ?_
  refine td_dup2 dX10_stepIn_62 rfl rfl ?_
  refine td_ialdc (j := (ix x1)) kp_98 (by decide) e21 rfl dX10_stepIn_63 ?_
  refine td_iload 5 dX10_stepIn_64 rfl ?_
  refine td_ior dX10_stepIn_66 ?_
  refine td_iastc (j := (ix x1)) kp_98 (by decide) e21 rfl dX10_stepIn_67 ?_
  refine td_iconst (v := 0) dX10_stepIn_68 (by decide) ?_
  refine td_istore (lv2 := [(0, .ref 85), (1, .int x1), (2, .int x2), (3, .int x3), (4, .int (h 86 (ix ((10 + (3 * x1)) + 2)))), (5, .int (ms (inP c σ (ix x2)))), (6, .int 0)]) dX10_stepIn_69 (by decide) rfl ?_
  exact K
set_option maxRecDepth 20000 in
set_option maxHeartbeats 4000000 in
theorem gX10_stepIn_71 {G : td_G} {d : Nat} {Post : td_P} {c : nH} {x1 x2 x3 x4 x5 x6 : Int32} {h : td_H} (K : ((h 86 9) ≤ x6 → (((x4 = 1 → ((h 85 18) = 1 → (vp_in ((10 + (3 * x1)) + 1) 46 ∧ (rmC c h ∧ vp_in x2 4 ∧ vp_in (h 86 (ix ((10 + (3 * x1)) + 1))) 2 ∧ vp_in (h 85 17) 12 ∧ ((nI (share (c 0 0) (ix x2) (ix (h 86 (ix ((10 + (3 * x1)) + 1)))) (ix (h 85 17)))) = (h 87 1) → (vp_in x1 12 ∧ True)))))) ∧ (¬ x4 = 1 → (x4 = 2 → ((h 85 18) = 1 → (vp_in ((10 + (3 * x1)) + 1) 46 ∧ (rmC c h ∧ vp_in x2 4 ∧ vp_in (h 86 (ix ((10 + (3 * x1)) + 1))) 2 ∧ vp_in (h 85 17) 12 ∧ ((nI (share (c 0 0) (ix x2) (ix (h 86 (ix ((10 + (3 * x1)) + 1)))) (ix (h 85 17)))) = (h 87 1) → (vp_in x1 12 ∧ True)))))))) ∧ (Post none (if x4 = 1 then if (h 85 18) = 1 then if (nI (share (c 0 0) (ix x2) (ix (h 86 (ix ((10 + (3 * x1)) + 1)))) (ix (h 85 17)))) = (h 87 1) then (hu (hu h 96 (ix x1) 1) 85 19 ((hu h 96 (ix x1) 1) 87 7)) else h else h else if x4 = 2 then if (h 85 18) = 1 then if (nI (share (c 0 0) (ix x2) (ix (h 86 (ix ((10 + (3 * x1)) + 1)))) (ix (h 85 17)))) = (h 87 1) then (hu (hu h 96 (ix x1) 1) 85 19 ((hu h 96 (ix x1) 1) 87 7)) else h else h else h : td_H)))) ∧ (¬ (h 86 9) ≤ x6 → (vp_in x6 12 ∧ (td_J G (d + 2) mX10_stepIn Post 71 [(0, .ref 85), (1, .int x1), (2, .int x2), (3, .int x3), (4, .int x4), (5, .int x5), (6, .int (x6 + 1))] [] (hu h 98 (ix x6) ((h 98 (ix x6)) ||| (if (b2i ((jshr x5 x6) &&& 1 = 1)) = 0 then 0 else (jshl 1 x1) : Int32))))))) : td_J G (d + 2) mX10_stepIn Post 71 [(0, .ref 85), (1, .int x1), (2, .int x2), (3, .int x3), (4, .int x4), (5, .int x5), (6, .int x6)] [] h := by
  refine td_iload 6 dX10_stepIn_71 rfl ?_
  refine td_aload_n 0 dX10_stepIn_73 rfl ?_
  refine gf_X10_7 rfl kp_85 dX10_stepIn_74 ?_
  refine td_bipush (v := 9) dX10_stepIn_77 (by decide) ?_
  refine td_ialdc (j := 9) kp_86 (by decide) (by unfold vp_in; decide) (by decide) dX10_stepIn_79 ?_
  obtain ⟨Kt, Kf⟩ := K
  refine td_icmp_ge (tgt := 116) dX10_stepIn_80 (by decide) (fun q80 => ?_) (fun q80 => ?_)
  · have K := Kt q80
    refine td_iload 4 dX10_stepIn_116 rfl ?_
    refine td_iconst (v := 1) dX10_stepIn_118 (by decide) ?_
    obtain ⟨Ks119, K⟩ := K
    have KJ178 : td_J G (d + 2) mX10_stepIn Post 178 [(0, .ref 85), (1, .int x1), (2, .int x2), (3, .int x3), (4, .int x4), (5, .int x5), (6, .int x6)] [] (if x4 = 1 then if (h 85 18) = 1 then if (nI (share (c 0 0) (ix x2) (ix (h 86 (ix ((10 + (3 * x1)) + 1)))) (ix (h 85 17)))) = (h 87 1) then (hu (hu h 96 (ix x1) 1) 85 19 ((hu h 96 (ix x1) 1) 87 7)) else h else h else if x4 = 2 then if (h 85 18) = 1 then if (nI (share (c 0 0) (ix x2) (ix (h 86 (ix ((10 + (3 * x1)) + 1)))) (ix (h 85 17)))) = (h 87 1) then (hu (hu h 96 (ix x1) 1) 85 19 ((hu h 96 (ix x1) 1) 87 7)) else h else h else h : td_H) := by
      exact td_return rfl dX10_stepIn_178 K
    refine td_icmp_eq (tgt := 128) dX10_stepIn_119 (by decide) (fun q119 => ?_) (fun q119 => ?_)
    · have K := Ks119.1 q119
      refine td_aload_n 0 dX10_stepIn_128 rfl ?_
      refine gf_X10_173 rfl kp_85 dX10_stepIn_129 ?_
      refine td_iconst (v := 1) dX10_stepIn_132 (by decide) ?_
      refine td_icmp_ne (tgt := 178) dX10_stepIn_133 (by decide) (fun q133 => ?_) (fun q133 => ?_)
      · skip
        exact td_to KJ178 rfl rfl (by rw [show (if x4 = 1 then if (h 85 18) = 1 then if (nI (share (c 0 0) (ix x2) (ix (h 86 (ix ((10 + (3 * x1)) + 1)))) (ix (h 85 17)))) = (h 87 1) then (hu (hu h 96 (ix x1) 1) 85 19 ((hu h 96 (ix x1) 1) 87 7)) else h else h else if x4 = 2 then if (h 85 18) = 1 then if (nI (share (c 0 0) (ix x2) (ix (h 86 (ix ((10 + (3 * x1)) + 1)))) (ix (h 85 17)))) = (h 87 1) then (hu (hu h 96 (ix x1) 1) 85 19 ((hu h 96 (ix x1) 1) 87 7)) else h else h else h : td_H) = _ from (if_pos q119).trans (if_neg q133)])
      · have K := K q133
        refine td_aload_n 0 dX10_stepIn_136 rfl ?_
        refine td_iload_n 2 dX10_stepIn_137 rfl ?_
        refine td_aload_n 0 dX10_stepIn_138 rfl ?_
        refine td_iload_n 1 dX10_stepIn_139 rfl ?_
        refine td_iconst (v := 1) dX10_stepIn_140 (by decide) ?_
        obtain ⟨e141_0, K⟩ := K
        refine cl_X10_94 rfl kp_85 dX10_stepIn_141 (Nat.le_of_ble_eq_true rfl) (c_of x1 1 e141_0) (eR_k ?_)
        refine td_eqs (st2 := [.int (h 86 (ix ((10 + (3 * x1)) + 1))), .int x2, .ref 85]) rfl ?_
        refine td_aload_n 0 dX10_stepIn_144 rfl ?_
        refine gf_X10_176 rfl kp_85 dX10_stepIn_145 ?_
        obtain ⟨e148_0, K⟩ := K
        obtain ⟨e148_1, K⟩ := K
        obtain ⟨e148_2, K⟩ := K
        obtain ⟨e148_3, K⟩ := K
        refine cl_X10_86 rfl kp_85 dX10_stepIn_148 (Nat.le_of_ble_eq_true rfl) (c_shareOf c x2 (h 86 (ix ((10 + (3 * x1)) + 1))) (h 85 17) e148_0 e148_1 e148_2 e148_3) (eR_k ?_)
        refine td_eqs (st2 := [.int (nI (share (c 0 0) (ix x2) (ix (h 86 (ix ((10 + (3 * x1)) + 1)))) (ix (h 85 17))))]) rfl ?_
        refine td_aload_n 0 dX10_stepIn_151 rfl ?_
        refine gf_X10_13 rfl kp_85 dX10_stepIn_152 ?_
        refine td_iconst (v := 1) dX10_stepIn_155 (by decide) ?_
        refine td_ialdc (j := 1) kp_87 (by decide) (by unfold vp_in; decide) (by decide) dX10_stepIn_156 ?_
        refine td_icmp_ne (tgt := 178) dX10_stepIn_157 (by decide) (fun q157 => ?_) (fun q157 => ?_)
        · skip
          exact td_to KJ178 rfl rfl (by rw [show (if x4 = 1 then if (h 85 18) = 1 then if (nI (share (c 0 0) (ix x2) (ix (h 86 (ix ((10 + (3 * x1)) + 1)))) (ix (h 85 17)))) = (h 87 1) then (hu (hu h 96 (ix x1) 1) 85 19 ((hu h 96 (ix x1) 1) 87 7)) else h else h else if x4 = 2 then if (h 85 18) = 1 then if (nI (share (c 0 0) (ix x2) (ix (h 86 (ix ((10 + (3 * x1)) + 1)))) (ix (h 85 17)))) = (h 87 1) then (hu (hu h 96 (ix x1) 1) 85 19 ((hu h 96 (ix x1) 1) 87 7)) else h else h else h : td_H) = _ from (if_pos q119).trans ((if_pos q133).trans (if_neg q157))])
        · have K := K q157
          refine td_aload_n 0 dX10_stepIn_160 rfl ?_
          refine gf_X10_40 rfl kp_85 dX10_stepIn_161 ?_
          refine td_iload_n 1 dX10_stepIn_164 rfl ?_
          refine td_iconst (v := 1) dX10_stepIn_165 (by decide) ?_
          obtain ⟨e166, K⟩ := K
          refine td_iastc (j := (ix x1)) kp_96 (by decide) e166 rfl dX10_stepIn_166 ?_
          refine td_aload_n 0 dX10_stepIn_167 rfl ?_
          refine td_aload_n 0 dX10_stepIn_168 rfl ?_
          refine gf_X10_13 rfl kp_85 dX10_stepIn_169 ?_
          refine td_bipush (v := 7) dX10_stepIn_172 (by decide) ?_
          refine td_ialdc (j := 7) kp_87 (by decide) (by unfold vp_in; decide) (by decide) dX10_stepIn_174 ?_
          refine pf_X10_170 rfl kp_85 dX10_stepIn_175 ?_
          exact td_to KJ178 rfl rfl (by rw [show (if x4 = 1 then if (h 85 18) = 1 then if (nI (share (c 0 0) (ix x2) (ix (h 86 (ix ((10 + (3 * x1)) + 1)))) (ix (h 85 17)))) = (h 87 1) then (hu (hu h 96 (ix x1) 1) 85 19 ((hu h 96 (ix x1) 1) 87 7)) else h else h else if x4 = 2 then if (h 85 18) = 1 then if (nI (share (c 0 0) (ix x2) (ix (h 86 (ix ((10 + (3 * x1)) + 1)))) (ix (h 85 17)))) = (h 87 1) then (hu (hu h 96 (ix x1) 1) 85 19 ((hu h 96 (ix x1) 1) 87 7)) else h else h else h : td_H) = _ from (if_pos q119).trans ((if_pos q133).trans (if_pos q157))])
    · have K := Ks119.2 q119
      refine td_iload 4 dX10_stepIn_122 rfl ?_
      refine td_iconst (v := 2) dX10_stepIn_124 (by decide) ?_
      refine td_icmp_ne (tgt := 178) dX10_stepIn_125 (by decide) (fun q125 => ?_) (fun q125 => ?_)
      · skip
        exact td_to KJ178 rfl rfl (by rw [show (if x4 = 1 then if (h 85 18) = 1 then if (nI (share (c 0 0) (ix x2) (ix (h 86 (ix ((10 + (3 * x1)) + 1)))) (ix (h 85 17)))) = (h 87 1) then (hu (hu h 96 (ix x1) 1) 85 19 ((hu h 96 (ix x1) 1) 87 7)) else h else h else if x4 = 2 then if (h 85 18) = 1 then if (nI (share (c 0 0) (ix x2) (ix (h 86 (ix ((10 + (3 * x1)) + 1)))) (ix (h 85 17)))) = (h 87 1) then (hu (hu h 96 (ix x1) 1) 85 19 ((hu h 96 (ix x1) 1) 87 7)) else h else h else h : td_H) = _ from (if_neg q119).trans (if_neg q125)])
      · have K := K q125
        refine td_aload_n 0 dX10_stepIn_128 rfl ?_
        refine gf_X10_173 rfl kp_85 dX10_stepIn_129 ?_
        refine td_iconst (v := 1) dX10_stepIn_132 (by decide) ?_
        refine td_icmp_ne (tgt := 178) dX10_stepIn_133 (by decide) (fun q133 => ?_) (fun q133 => ?_)
        · skip
          exact td_to KJ178 rfl rfl (by rw [show (if x4 = 1 then if (h 85 18) = 1 then if (nI (share (c 0 0) (ix x2) (ix (h 86 (ix ((10 + (3 * x1)) + 1)))) (ix (h 85 17)))) = (h 87 1) then (hu (hu h 96 (ix x1) 1) 85 19 ((hu h 96 (ix x1) 1) 87 7)) else h else h else if x4 = 2 then if (h 85 18) = 1 then if (nI (share (c 0 0) (ix x2) (ix (h 86 (ix ((10 + (3 * x1)) + 1)))) (ix (h 85 17)))) = (h 87 1) then (hu (hu h 96 (ix x1) 1) 85 19 ((hu h 96 (ix x1) 1) 87 7)) else h else h else h : td_H) = _ from (if_neg q119).trans ((if_pos q125).trans (if_neg q133))])
        · have K := K q133
          refine td_aload_n 0 dX10_stepIn_136 rfl ?_
          refine td_iload_n 2 dX10_stepIn_137 rfl ?_
          refine td_aload_n 0 dX10_stepIn_138 rfl ?_
          refine td_iload_n 1 dX10_stepIn_139 rfl ?_
          refine td_iconst (v := 1) dX10_stepIn_140 (by decide) ?_
          obtain ⟨e141_0, K⟩ := K
          refine cl_X10_94 rfl kp_85 dX10_stepIn_141 (Nat.le_of_ble_eq_true rfl) (c_of x1 1 e141_0) (eR_k ?_)
          refine td_eqs (st2 := [.int (h 86 (ix ((10 + (3 * x1)) + 1))), .int x2, .ref 85]) rfl ?_
          refine td_aload_n 0 dX10_stepIn_144 rfl ?_
          refine gf_X10_176 rfl kp_85 dX10_stepIn_145 ?_
          obtain ⟨e148_0, K⟩ := K
          obtain ⟨e148_1, K⟩ := K
          obtain ⟨e148_2, K⟩ := K
          obtain ⟨e148_3, K⟩ := K
          refine cl_X10_86 rfl kp_85 dX10_stepIn_148 (Nat.le_of_ble_eq_true rfl) (c_shareOf c x2 (h 86 (ix ((10 + (3 * x1)) + 1))) (h 85 17) e148_0 e148_1 e148_2 e148_3) (eR_k ?_)
          refine td_eqs (st2 := [.int (nI (share (c 0 0) (ix x2) (ix (h 86 (ix ((10 + (3 * x1)) + 1)))) (ix (h 85 17))))]) rfl ?_
          refine td_aload_n 0 dX10_stepIn_151 rfl ?_
          refine gf_X10_13 rfl kp_85 dX10_stepIn_152 ?_
          refine td_iconst (v := 1) dX10_stepIn_155 (by decide) ?_
          refine td_ialdc (j := 1) kp_87 (by decide) (by unfold vp_in; decide) (by decide) dX10_stepIn_156 ?_
          refine td_icmp_ne (tgt := 178) dX10_stepIn_157 (by decide) (fun q157 => ?_) (fun q157 => ?_)
          · skip
            exact td_to KJ178 rfl rfl (by rw [show (if x4 = 1 then if (h 85 18) = 1 then if (nI (share (c 0 0) (ix x2) (ix (h 86 (ix ((10 + (3 * x1)) + 1)))) (ix (h 85 17)))) = (h 87 1) then (hu (hu h 96 (ix x1) 1) 85 19 ((hu h 96 (ix x1) 1) 87 7)) else h else h else if x4 = 2 then if (h 85 18) = 1 then if (nI (share (c 0 0) (ix x2) (ix (h 86 (ix ((10 + (3 * x1)) + 1)))) (ix (h 85 17)))) = (h 87 1) then (hu (hu h 96 (ix x1) 1) 85 19 ((hu h 96 (ix x1) 1) 87 7)) else h else h else h : td_H) = _ from (if_neg q119).trans ((if_pos q125).trans ((if_pos q133).trans (if_neg q157)))])
          · have K := K q157
            refine td_aload_n 0 dX10_stepIn_160 rfl ?_
            refine gf_X10_40 rfl kp_85 dX10_stepIn_161 ?_
            refine td_iload_n 1 dX10_stepIn_164 rfl ?_
            refine td_iconst (v := 1) dX10_stepIn_165 (by decide) ?_
            obtain ⟨e166, K⟩ := K
            refine td_iastc (j := (ix x1)) kp_96 (by decide) e166 rfl dX10_stepIn_166 ?_
            refine td_aload_n 0 dX10_stepIn_167 rfl ?_
            refine td_aload_n 0 dX10_stepIn_168 rfl ?_
            refine gf_X10_13 rfl kp_85 dX10_stepIn_169 ?_
            refine td_bipush (v := 7) dX10_stepIn_172 (by decide) ?_
            refine td_ialdc (j := 7) kp_87 (by decide) (by unfold vp_in; decide) (by decide) dX10_stepIn_174 ?_
            refine pf_X10_170 rfl kp_85 dX10_stepIn_175 ?_
            exact td_to KJ178 rfl rfl (by rw [show (if x4 = 1 then if (h 85 18) = 1 then if (nI (share (c 0 0) (ix x2) (ix (h 86 (ix ((10 + (3 * x1)) + 1)))) (ix (h 85 17)))) = (h 87 1) then (hu (hu h 96 (ix x1) 1) 85 19 ((hu h 96 (ix x1) 1) 87 7)) else h else h else if x4 = 2 then if (h 85 18) = 1 then if (nI (share (c 0 0) (ix x2) (ix (h 86 (ix ((10 + (3 * x1)) + 1)))) (ix (h 85 17)))) = (h 87 1) then (hu (hu h 96 (ix x1) 1) 85 19 ((hu h 96 (ix x1) 1) 87 7)) else h else h else h : td_H) = _ from (if_neg q119).trans ((if_pos q125).trans ((if_pos q133).trans (if_pos q157)))])
  · have K := Kf q80
    refine td_aload_n 0 dX10_stepIn_83 rfl ?_
    refine gf_X10_46 rfl kp_85 dX10_stepIn_84 ?_
    refine td_iload 6 dX10_stepIn_87 rfl ?_
    refine td_dup2 dX10_stepIn_89 rfl rfl ?_
    obtain ⟨e90, K⟩ := K
    refine td_ialdc (j := (ix x6)) kp_98 (by decide) e90 rfl dX10_stepIn_90 ?_
    refine td_iload 5 dX10_stepIn_91 rfl ?_
    refine td_iload 6 dX10_stepIn_93 rfl ?_
    refine cl_X10_166 rfl dX10_stepIn_95 (Nat.le_of_ble_eq_true rfl) (c_has x5 x6) (eR_k ?_)
    refine td_eqs (st2 := [.int (b2i ((jshr x5 x6) &&& 1 = 1)), .int (h 98 (ix x6)), .int x6, .ref 98]) rfl ?_
    have KJ108 : td_J G (d + 2) mX10_stepIn Post 108 [(0, .ref 85), (1, .int x1), (2, .int x2), (3, .int x3), (4, .int x4), (5, .int x5), (6, .int x6)] [.int (if (b2i ((jshr x5 x6) &&& 1 = 1)) = 0 then 0 else (jshl 1 x1) : Int32), .int (h 98 (ix x6)), .int x6, .ref 98] h := by
      refine td_ior dX10_stepIn_108 ?_
      refine td_iastc (j := (ix x6)) kp_98 (by decide) e90 rfl dX10_stepIn_109 ?_
      refine td_iinc 6 (v := x6 + 1) (lv2 := [(0, .ref 85), (1, .int x1), (2, .int x2), (3, .int x3), (4, .int x4), (5, .int x5), (6, .int (x6 + 1))]) dX10_stepIn_110 rfl (congrArg (x6 + ·) (by decide)) (by decide) rfl ?_
      refine td_goto (tgt := 71) dX10_stepIn_113 (by decide) ?_
      exact K
    refine td_if_eq (tgt := 107) dX10_stepIn_98 (by decide) (fun q98 => ?_) (fun q98 => ?_)
    · skip
      refine td_iconst (v := 0) dX10_stepIn_107 (by decide) ?_
      exact td_to KJ108 rfl (by rw [show (if (b2i ((jshr x5 x6) &&& 1 = 1)) = 0 then 0 else (jshl 1 x1) : Int32) = _ from if_pos q98]) rfl
    · skip
      refine td_iconst (v := 1) dX10_stepIn_101 (by decide) ?_
      refine td_iload_n 1 dX10_stepIn_102 rfl ?_
      refine td_ishl dX10_stepIn_103 ?_
      refine td_goto (tgt := 108) dX10_stepIn_104 (by decide) ?_
      exact td_to KJ108 rfl (by rw [show (if (b2i ((jshr x5 x6) &&& 1 = 1)) = 0 then 0 else (jshl 1 x1) : Int32) = _ from if_neg q98]) rfl
