/-! Model: stepping in -/
theorem ms_or1 {f : Nat → Bool} {q : Nat} (hq : q < 12) (b : Bool) : ms f ||| (if b2i (b = true) = 0 then 0 else jshl 1 (nI q)) = ms (fun j => f j || (b && decide (j = q))) := by
  rw [b2i_ite]
  by_cases z : b = true
  · rw [if_pos z, ms_one hq, ms_or]
    exact ms_ext (fun i _ => by simp [z])
  · rw [if_neg z, show (0 : Int32) = ms (fun _ => false) from ms_none.symm, ms_or]
    exact ms_ext (fun i _ => by simp [z])
set_option maxRecDepth 20000 in
set_option maxHeartbeats 4000000 in
theorem gX10_stepIn_0 {G : td_G} {d : Nat} {Post : td_P} {c σ : nH} {x1 x2 x3 : Int32} {h : td_H} (K : vp_in ((10 + (3 * x1)) + 2) 46 ∧ (rmC c h ∧ rmS σ h ∧ vp_in x2 4 ∧ (vp_in x1 12 ∧ (td_J G (d + 2) mX10_stepIn Post 71 [(0, .ref 85), (1, .int x1), (2, .int x2), (3, .int x3), (4, .int (h 86 (ix ((10 + (3 * x1)) + 2)))), (5, .int (ms (inP c σ (ix x2)))), (6, .int 0)] [] (hu (hu (hu (hu (hu (hu h 91 (ix x1) 2) 92 (ix x1) x2) 93 (ix x1) x3) 95 (ix x1) (x3 - ((hu (hu (hu h 91 (ix x1) 2) 92 (ix x1) x2) 93 (ix x1) x3) 88 (ix x1)))) 97 (ix x1) 0) 98 (ix x1) (((hu (hu (hu (hu (hu h 91 (ix x1) 2) 92 (ix x1) x2) 93 (ix x1) x3) 95 (ix x1) (x3 - ((hu (hu (hu h 91 (ix x1) 2) 92 (ix x1) x2) 93 (ix x1) x3) 88 (ix x1)))) 97 (ix x1) 0) 98 (ix x1)) ||| (ms (inP c σ (ix x2))))))))) : td_J G (d + 2) mX10_stepIn Post 0 [(0, .ref 85), (1, .int x1), (2, .int x2), (3, .int x3)] [] h := by
  refine td_aload_n 0 dX10_stepIn_0 rfl ?_
  refine td_iload_n 1 dX10_stepIn_1 rfl ?_
  refine td_iconst (v := 2) dX10_stepIn_2 (by decide) ?_
  obtain ⟨e3_0, K⟩ := K
  refine cl_X10_94 rfl kp_85 dX10_stepIn_3 (Nat.le_of_ble_eq_true rfl) (c_of x1 2 e3_0) (eR_k ?_)
  refine td_eqs (st2 := [.int (h 86 (ix ((10 + (3 * x1)) + 2)))]) rfl ?_
  refine td_istore (lv2 := [(0, .ref 85), (1, .int x1), (2, .int x2), (3, .int x3), (4, .int (h 86 (ix ((10 + (3 * x1)) + 2))))]) dX10_stepIn_6 (by decide) rfl ?_
  refine td_aload_n 0 dX10_stepIn_8 rfl ?_
  refine td_iload_n 2 dX10_stepIn_9 rfl ?_
  obtain ⟨e10_0, K⟩ := K
  obtain ⟨e10_1, K⟩ := K
  obtain ⟨e10_2, K⟩ := K
  refine cl_X10_163 rfl kp_85 dX10_stepIn_10 (Nat.le_of_ble_eq_true rfl) (c_insideOf c σ x2 e10_0 e10_1 e10_2) (eR_k ?_)
  refine td_eqs (st2 := [.int (ms (inP c σ (ix x2)))]) rfl ?_
  refine td_istore (lv2 := [(0, .ref 85), (1, .int x1), (2, .int x2), (3, .int x3), (4, .int (h 86 (ix ((10 + (3 * x1)) + 2)))), (5, .int (ms (inP c σ (ix x2))))]) dX10_stepIn_13 (by decide) rfl ?_
  refine td_aload_n 0 dX10_stepIn_15 rfl ?_
  refine gf_X10_25 rfl kp_85 dX10_stepIn_16 ?_
  refine td_iload_n 1 dX10_stepIn_19 rfl ?_
  refine td_iconst (v := 2) dX10_stepIn_20 (by decide) ?_
  obtain ⟨e21, K⟩ := K
  refine td_iastc (j := (ix x1)) kp_91 (by decide) e21 rfl dX10_stepIn_21 ?_
  refine td_aload_n 0 dX10_stepIn_22 rfl ?_
  refine gf_X10_28 rfl kp_85 dX10_stepIn_23 ?_
  refine td_iload_n 1 dX10_stepIn_26 rfl ?_
  refine td_iload_n 2 dX10_stepIn_27 rfl ?_
  refine td_iastc (j := (ix x1)) kp_92 (by decide) e21 rfl dX10_stepIn_28 ?_
  refine td_aload_n 0 dX10_stepIn_29 rfl ?_
  refine gf_X10_31 rfl kp_85 dX10_stepIn_30 ?_
  refine td_iload_n 1 dX10_stepIn_33 rfl ?_
  refine td_iload_n 3 dX10_stepIn_34 rfl ?_
  refine td_iastc (j := (ix x1)) kp_93 (by decide) e21 rfl dX10_stepIn_35 ?_
  refine td_aload_n 0 dX10_stepIn_36 rfl ?_
  refine gf_X10_37 rfl kp_85 dX10_stepIn_37 ?_
  refine td_iload_n 1 dX10_stepIn_40 rfl ?_
  refine td_iload_n 3 dX10_stepIn_41 rfl ?_
  refine td_aload_n 0 dX10_stepIn_42 rfl ?_
  refine gf_X10_16 rfl kp_85 dX10_stepIn_43 ?_
  refine td_iload_n 1 dX10_stepIn_46 rfl ?_
  refine td_ialdc (j := (ix x1)) kp_88 (by decide) e21 rfl dX10_stepIn_47 ?_
  refine td_isub dX10_stepIn_48 ?_
  refine td_iastc (j := (ix x1)) kp_95 (by decide) e21 rfl dX10_stepIn_49 ?_
  refine td_aload_n 0 dX10_stepIn_50 rfl ?_
  refine gf_X10_43 rfl kp_85 dX10_stepIn_51 ?_
  refine td_iload_n 1 dX10_stepIn_54 rfl ?_
  refine td_iconst (v := 0) dX10_stepIn_55 (by decide) ?_
  refine td_iastc (j := (ix x1)) kp_97 (by decide) e21 rfl dX10_stepIn_56 ?_
  refine td_aload_n 0 dX10_stepIn_57 rfl ?_
  refine gf_X10_46 rfl kp_85 dX10_stepIn_58 ?_
  refine td_iload_n 1 dX10_stepIn_61 rfl ?_
  refine td_dup2 dX10_stepIn_62 rfl rfl ?_
  refine td_ialdc (j := (ix x1)) kp_98 (by decide) e21 rfl dX10_stepIn_63 ?_
  refine td_iload 5 dX10_stepIn_64 rfl ?_
  refine td_ior dX10_stepIn_66 ?_
  refine td_iastc (j := (ix x1)) kp_98 (by decide) e21 rfl dX10_stepIn_67 ?_
  refine td_iconst (v := 0) dX10_stepIn_68 (by decide) ?_
  refine td_istore (lv2 := [(0, .ref 85), (1, .int x1), (2, .int x2), (3, .int x3), (4, .int (h 86 (ix ((10 + (3 * x1)) + 2)))), (5, .int (ms (inP c σ (ix x2)))), (6, .int 0)]) dX10_stepIn_69 (by decide) rfl ?_
  exact K
set_option maxRecDepth 20000 in
set_option maxHeartbeats 4000000 in
theorem gX10_stepIn_71 {G : td_G} {d : Nat} {Post : td_P} {c : nH} {x1 x2 x3 x4 x5 x6 : Int32} {h : td_H} (K : ((h 86 9) ≤ x6 → (((x4 = 1 → ((h 85 18) = 1 → (vp_in ((10 + (3 * x1)) + 1) 46 ∧ (rmC c h ∧ vp_in x2 4 ∧ vp_in (h 86 (ix ((10 + (3 * x1)) + 1))) 2 ∧ vp_in (h 85 17) 12 ∧ ((nI (share (c 0 0) (ix x2) (ix (h 86 (ix ((10 + (3 * x1)) + 1)))) (ix (h 85 17)))) = (h 87 1) → (vp_in x1 12 ∧ True)))))) ∧ (¬ x4 = 1 → (x4 = 2 → ((h 85 18) = 1 → (vp_in ((10 + (3 * x1)) + 1) 46 ∧ (rmC c h ∧ vp_in x2 4 ∧ vp_in (h 86 (ix ((10 + (3 * x1)) + 1))) 2 ∧ vp_in (h 85 17) 12 ∧ ((nI (share (c 0 0) (ix x2) (ix (h 86 (ix ((10 + (3 * x1)) + 1)))) (ix (h 85 17)))) = (h 87 1) → (vp_in x1 12 ∧ True)))))))) ∧ (Post none (if x4 = 1 then if (h 85 18) = 1 then if (nI (share (c 0 0) (ix x2) (ix (h 86 (ix ((10 + (3 * x1)) + 1)))) (ix (h 85 17)))) = (h 87 1) then (hu (hu h 96 (ix x1) 1) 85 19 ((hu h 96 (ix x1) 1) 87 7)) else h else h else if x4 = 2 then if (h 85 18) = 1 then if (nI (share (c 0 0) (ix x2) (ix (h 86 (ix ((10 + (3 * x1)) + 1)))) (ix (h 85 17)))) = (h 87 1) then (hu (hu h 96 (ix x1) 1) 85 19 ((hu h 96 (ix x1) 1) 87 7)) else h else h else h : td_H)))) ∧ (¬ (h 86 9) ≤ x6 → (vp_in x6 12 ∧ (td_J G (d + 2) mX10_stepIn Post 71 [(0, .ref 85), (1, .int x1), (2, .int x2), (3, .int x3), (4, .int x4), (5, .int x5), (6, .int (x6 + 1))] [] (hu h 98 (ix x6) ((h 98 (ix x6)) ||| (if (b2i ((jshr x5 x6) &&& 1 = 1)) = 0 then 0 else (jshl 1 x1) : Int32))))))) : td_J G (d + 2) mX10_stepIn Post 71 [(0, .ref 85), (1, .int x1), (2, .int x2), (3, .int x3), (4, .int x4), (5, .int x5), (6, .int x6)] [] h := by
  refine td_iload 6 dX10_stepIn_71 rfl ?_
  refine td_aload_n 0 dX10_stepIn_73 rfl ?_
  refine gf_X10_7 rfl kp_85 dX10_stepIn_74 ?_
  refine td_bipush (v := 9) dX10_stepIn_77 (by decide) ?_
  refine td_ialdc (j := 9) kp_86 (by decide) (by unfold vp_in; decide) (by decide) dX10_stepIn_79 ?_
  obtain ⟨Kt, Kf⟩ := K
  refine td_icmp_ge (tgt := 116) dX10_stepIn_80 (by decide) (fun q80 => ?_) (fun q80 => ?_)
  · have K := Kt q80
    refine td_iload 4 dX10_stepIn_116 rfl ?_
    refine td_iconst (v := 1) dX10_stepIn_118 (by decide) ?_
    obtain ⟨Ks119, K⟩ := K
    have KJ178 : td_J G (d + 2) mX10_stepIn Post 178 [(0, .ref 85), (1, .int x1), (2, .int x2), (3, .int x3), (4, .int x4), (5, .int x5), (6, .int x6)] [] (if x4 = 1 then if (h 85 18) = 1 then if (nI (share (c 0 0) (ix x2) (ix (h 86 (ix ((10 + (3 * x1)) + 1)))) (ix (h 85 17)))) = (h 87 1) then (hu (hu h 96 (ix x1) 1) 85 19 ((hu h 96 (ix x1) 1) 87 7)) else h else h else if x4 = 2 then if (h 85 18) = 1 then if (nI (share (c 0 0) (ix x2) (ix (h 86 (ix ((10 + (3 * x1)) + 1)))) (ix (h 85 17)))) = (h 87 1) then (hu (hu h 96 (ix x1) 1) 85 19 ((hu h 96 (ix x1) 1) 87 7)) else h else h else h : td_H) := by
      exact td_return rfl dX10_stepIn_178 K
    refine td_icmp_eq (tgt := 128) dX10_stepIn_119 (by decide) (fun q119 => ?_) (fun q119 => ?_)
    · have K := Ks119.1 q119
      refine td_aload_n 0 dX10_stepIn_128 rfl ?_
      refine gf_X10_173 rfl kp_85 dX10_stepIn_129 ?_
      refine td_iconst (v := 1) dX10_stepIn_132 (by decide) ?_
      refine td_icmp_ne (tgt := 178) dX10_stepIn_133 (by decide) (fun q133 => ?_) (fun q133 => ?_)
      · skip
        exact td_to KJ178 rfl rfl (by rw [show (if x4 = 1 then if (h 85 18) = 1 then if (nI (share (c 0 0) (ix x2) (ix (h 86 (ix ((10 + (3 * x1)) + 1)))) (ix (h 85 17)))) = (h 87 1) then (hu (hu h 96 (ix x1) 1) 85 19 ((hu h 96 (ix x1) 1) 87 7)) else h else h else if x4 = 2 then if (h 85 18) = 1 then if (nI (share (c 0 0) (ix x2) (ix (h 86 (ix ((10 + (3 * x1)) + 1)))) (ix (h 85 17)))) = (h 87 1) then (hu (hu h 96 (ix x1) 1) 85 19 ((hu h 96 (ix x1) 1) 87 7)) else h else h else h : td_H) = _ from (if_pos q119).trans (if_neg q133)])
      · have K := K q133
        refine td_aload_n 0 dX10_stepIn_136 rfl ?_
        refine td_iload_n 2 dX10_stepIn_137 rfl ?_
        refine td_aload_n 0 dX10_stepIn_138 rfl ?_
        refine td_iload_n 1 dX10_stepIn_139 rfl ?_
        refine td_iconst (v := 1) dX10_stepIn_140 (by decide) ?_
        obtain ⟨e141_0, K⟩ := K
        refine cl_X10_94 rfl kp_85 dX10_stepIn_141 (Nat.le_of_ble_eq_true rfl) (c_of x1 1 e141_0) (eR_k ?_)
        refine td_eqs (st2 := [.int (h 86 (ix ((10 + (3 * x1)) + 1))), .int x2, .ref 85]) rfl ?_
        refine td_aload_n 0 dX10_stepIn_144 rfl ?_
        refine gf_X10_176 rfl kp_85 dX10_stepIn_145 ?_
        obtain ⟨e148_0, K⟩ := K
        obtain ⟨e148_1, K⟩ := K
        obtain ⟨e148_2, K⟩ := K
        obtain ⟨e148_3, K⟩ := K
        refine cl_X10_86 rfl kp_85 dX10_stepIn_148 (Nat.le_of_ble_eq_true rfl) (c_shareOf c x2 (h 86 (ix ((10 + (3 * x1)) + 1))) (h 85 17) e148_0 e148_1 e148_2 e148_3) (eR_k ?_)
        refine td_eqs (st2 := [.int (nI (share (c 0 0) (ix x2) (ix (h 86 (ix ((10 + (3 * x1)) + 1)))) (ix (h 85 17))))]) rfl ?_
        refine td_aload_n 0 dX10_stepIn_151 rfl ?_
        refine gf_X10_13 rfl kp_85 dX10_stepIn_152 ?_
        refine td_iconst (v := 1) dX10_stepIn_155 (by decide) ?_
        refine td_ialdc (j := 1) kp_87 (by decide) (by unfold vp_in; decide) (by decide) dX10_stepIn_156 ?_
        refine td_icmp_ne (tgt := 178) dX10_stepIn_157 (by decide) (fun q157 => ?_) (fun q157 => ?_)
        · skip
          exact td_to KJ178 rfl rfl (by rw [show (if x4 = 1 then if (h 85 18) = 1 then if (nI (share (c 0 0) (ix x2) (ix (h 86 (ix ((10 + (3 * x1)) + 1)))) (ix (h 85 17)))) = (h 87 1) then (hu (hu h 96 (ix x1) 1) 85 19 ((hu h 96 (ix x1) 1) 87 7)) else h else h else if x4 = 2 then if (h 85 18) = 1 then if (nI (share (c 0 0) (ix x2) (ix (h 86 (ix ((10 + (3 * x1)) + 1)))) (ix (h 85 17)))) = (h 87 1) then (hu (hu h 96 (ix x1) 1) 85 19 ((hu h 96 (ix x1) 1) 87 7)) else h else h else h : td_H) = _ from (if_pos q119).trans ((if_pos q133).trans (if_neg q157))])
        · have K := K q157
          refine td_aload_n 0 dX10_stepIn_160 rfl ?_
          refine gf_X10_40 rfl kp_85 dX10_stepIn_161 ?_
          refine td_iload_n 1 dX10_stepIn_164 rfl ?_
          refine td_iconst (v := 1) dX10_stepIn_165 (by decide) ?_
          obtain ⟨e166, K⟩ := K
          refine td_iastc (j := (ix x1)) kp_96 (by decide) e166 rfl dX10_stepIn_166 ?_
          refine td_aload_n 0 dX10_stepIn_167 rfl ?_
          refine td_aload_n 0 dX10_stepIn_168 rfl ?_
          refine gf_X10_13 rfl kp_85 dX10_stepIn_169 ?_
          refine td_bipush (v := 7) dX10_stepIn_172 (by decide) ?_
          refine td_ialdc (j := 7) kp_87 (by decide) (by unfold vp_in; decide) (by decide) dX10_stepIn_174 ?_
          refine pf_X10_170 rfl kp_85 dX10_stepIn_175 ?_
          exact td_to KJ178 rfl rfl (by rw [show (if x4 = 1 then if (h 85 18) = 1 then if (nI (share (c 0 0) (ix x2) (ix (h 86 (ix ((10 + (3 * x1)) + 1)))) (ix (h 85 17)))) = (h 87 1) then (hu (hu h 96 (ix x1) 1) 85 19 ((hu h 96 (ix x1) 1) 87 7)) else h else h else if x4 = 2 then if (h 85 18) = 1 then if (nI (share (c 0 0) (ix x2) (ix (h 86 (ix ((10 + (3 * x1)) + 1)))) (ix (h 85 17)))) = (h 87 1) then (hu (hu h 96 (ix x1) 1) 85 19 ((hu h 96 (ix x1) 1) 87 7)) else h else h else h : td_H) = _ from (if_pos q119).trans ((if_pos q133).trans (if_pos q157))])
    · have K := Ks119.2 q119
      refine td_iload 4 dX10_stepIn_122 rfl ?_
      refine td_iconst (v := 2) dX10_stepIn_124 (by decide) ?_
      refine td_icmp_ne (tgt := 178) dX10_stepIn_125 (by decide) (fun q125 => ?_) (fun q125 => ?_)
      · skip
        exact td_to KJ178 rfl rfl (by rw [show (if x4 = 1 then if (h 85 18) = 1 then if (nI (share (c 0 0) (ix x2) (ix (h 86 (ix ((10 + (3 * x1)) + 1)))) (ix (h 85 17)))) = (h 87 1) then (hu (hu h 96 (ix x1) 1) 85 19 ((hu h 96 (ix x1) 1) 87 7)) else h else h else if x4 = 2 then if (h 85 18) = 1 then if (nI (share (c 0 0) (ix x2) (ix (h 86 (ix ((10 + (3 * x1)) + 1)))) (ix (h 85 17)))) = (h 87 1) then (hu (hu h 96 (ix x1) 1) 85 19 ((hu h 96 (ix x1) 1) 87 7)) else h else h else h : td_H) = _ from (if_neg q119).trans (if_neg q125)])
      · have K := K q125
        refine td_aload_n 0 dX10_stepIn_128 rfl ?_
        refine gf_X10_173 rfl kp_85 dX10_stepIn_129 ?_
        refine td_iconst (v := 1) dX10_stepIn_132 (by decide) ?_
        refine td_icmp_ne (tgt := 178) dX10_stepIn_133 (by decide) (fun q133 => ?_) (fun q133 => ?_)
        · skip
          exact td_to KJ178 rfl rfl (by rw [show (if x4 = 1 then if (h 85 18) = 1 then if (nI (share (c 0 0) (ix x2) (ix (h 86 (ix ((10 + (3 * x1)) + 1)))) (ix (h 85 17)))) = (h 87 1) then (hu (hu h 96 (ix x1) 1) 85 19 ((hu h 96 (ix x1) 1) 87 7)) else h else h else if x4 = 2 then if (h 85 18) = 1 then if (nI (share (c 0 0) (ix x2) (ix (h 86 (ix ((10 + (3 * x1)) + 1)))) (ix (h 85 17)))) = (h 87 1) then (hu (hu h 96 (ix x1) 1) 85 19 ((hu h 96 (ix x1) 1) 87 7)) else h else h else h : td_H) = _ from (if_neg q119).trans ((if_pos q125).trans (if_neg q133))])
        · have K := K q133
          refine td_aload_n 0 dX10_stepIn_136 rfl ?_
          refine td_iload_n 2 dX10_stepIn_137 rfl ?_
          refine td_aload_n 0 dX10_stepIn_138 rfl ?_
          refine td_iload_n 1 dX10_stepIn_139 rfl ?_
          refine td_iconst (v := 1) dX10_stepIn_140 (by decide) ?_
          obtain ⟨e141_0, K⟩ := K
          refine cl_X10_94 rfl kp_85 dX10_stepIn_141 (Nat.le_of_ble_eq_true rfl) (c_of x1 1 e141_0) (eR_k ?_)
          refine td_eqs (st2 := [.int (h 86 (ix ((10 + (3 * x1)) + 1))), .int x2, .ref 85]) rfl ?_
          refine td_aload_n 0 dX10_stepIn_144 rfl ?_
          refine gf_X10_176 rfl kp_85 dX10_stepIn_145 ?_
          obtain ⟨e148_0, K⟩ := K
          obtain ⟨e148_1, K⟩ := K
          obtain ⟨e148_2, K⟩ := K
          obtain ⟨e148_3, K⟩ := K
          refine cl_X10_86 rfl kp_85 dX10_stepIn_148 (Nat.le_of_ble_eq_true rfl) (c_shareOf c x2 (h 86 (ix ((10 + (3 * x1)) + 1))) (h 85 17) e148_0 e148_1 e148_2 e148_3) (eR_k ?_)
          refine td_eqs (st2 := [.int (nI (share (c 0 0) (ix x2) (ix (h 86 (ix ((10 + (3 * x1)) + 1)))) (ix (h 85 17))))]) rfl ?_
          refine td_aload_n 0 dX10_stepIn_151 rfl ?_
          refine gf_X10_13 rfl kp_85 dX10_stepIn_152 ?_
          refine td_iconst (v := 1) dX10_stepIn_155 (by decide) ?_
          refine td_ialdc (j := 1) kp_87 (by decide) (by unfold vp_in; decide) (by decide) dX10_stepIn_156 ?_
          refine td_icmp_ne (tgt := 178) dX10_stepIn_157 (by decide) (fun q157 => ?_) (fun q157 => ?_)
          · skip
            exact td_to KJ178 rfl rfl (by rw [show (if x4 = 1 then if (h 85 18) = 1 then if (nI (share (c 0 0) (ix x2) (ix (h 86 (ix ((10 + (3 * x1)) + 1)))) (ix (h 85 17)))) = (h 87 1) then (hu (hu h 96 (ix x1) 1) 85 19 ((hu h 96 (ix x1) 1) 87 7)) else h else h else if x4 = 2 then if (h 85 18) = 1 then if (nI (share (c 0 0) (ix x2) (ix (h 86 (ix ((10 + (3 * x1)) + 1)))) (ix (h 85 17)))) = (h 87 1) then (hu (hu h 96 (ix x1) 1) 85 19 ((hu h 96 (ix x1) 1) 87 7)) else h else h else h : td_H) = _ from (if_neg q119).trans ((if_pos q125).trans ((if_pos q133).trans (if_neg q157)))])
          · have K := K q157
            refine td_aload_n 0 dX10_stepIn_160 rfl ?_
            refine gf_X10_40 rfl kp_85 dX10_stepIn_161 ?_
            refine td_iload_n 1 dX10_stepIn_164 rfl ?_
            refine td_iconst (v := 1) dX10_stepIn_165 (by decide) ?_
            obtain ⟨e166, K⟩ := K
            refine td_iastc (j := (ix x1)) kp_96 (by decide) e166 rfl dX10_stepIn_166 ?_
            refine td_aload_n 0 dX10_stepIn_167 rfl ?_
            refine td_aload_n 0 dX10_stepIn_168 rfl ?_
            refine gf_X10_13 rfl kp_85 dX10_stepIn_169 ?_
            refine td_bipush (v := 7) dX10_stepIn_172 (by decide) ?_
            refine td_ialdc (j := 7) kp_87 (by decide) (by unfold vp_in; decide) (by decide) dX10_stepIn_174 ?_
            refine pf_X10_170 rfl kp_85 dX10_stepIn_175 ?_
            exact td_to KJ178 rfl rfl (by rw [show (if x4 = 1 then if (h 85 18) = 1 then if (nI (share (c 0 0) (ix x2) (ix (h 86 (ix ((10 + (3 * x1)) + 1)))) (ix (h 85 17)))) = (h 87 1) then (hu (hu h 96 (ix x1) 1) 85 19 ((hu h 96 (ix x1) 1) 87 7)) else h else h else if x4 = 2 then if (h 85 18) = 1 then if (nI (share (c 0 0) (ix x2) (ix (h 86 (ix ((10 + (3 * x1)) + 1)))) (ix (h 85 17)))) = (h 87 1) then (hu (hu h 96 (ix x1) 1) 85 19 ((hu h 96 (ix x1) 1) 87 7)) else h else h else h : td_H) = _ from (if_neg q119).trans ((if_pos q125).trans ((if_pos q133).trans (if_pos q157)))])
  · have K := Kf q80
    refine td_aload_n 0 dX10_stepIn_83 rfl ?_
    refine gf_X10_46 rfl kp_85 dX10_stepIn_84 ?_
    refine td_iload 6 dX10_stepIn_87 rfl ?_
    refine td_dup2 dX10_stepIn_89 rfl rfl ?_
    obtain ⟨e90, K⟩ := K
    refine td_ialdc (j := (ix x6)) kp_98 (by decide) e90 rfl dX10_stepIn_90 ?_
    refine td_iload 5 dX10_stepIn_91 rfl ?_
    refine td_iload 6 dX10_stepIn_93 rfl ?_
    refine cl_X10_166 rfl dX10_stepIn_95 (Nat.le_of_ble_eq_true rfl) (c_has x5 x6) (eR_k ?_)
    refine td_eqs (st2 := [.int (b2i ((jshr x5 x6) &&& 1 = 1)), .int (h 98 (ix x6)), .int x6, .ref 98]) rfl ?_
    have KJ108 : td_J G (d + 2) mX10_stepIn Post 108 [(0, .ref 85), (1, .int x1), (2, .int x2), (3, .int x3), (4, .int x4), (5, .int x5), (6, .int x6)] [.int (if (b2i ((jshr x5 x6) &&& 1 = 1)) = 0 then 0 else (jshl 1 x1) : Int32), .int (h 98 (ix x6)), .int x6, .ref 98] h := by
      refine td_ior dX10_stepIn_108 ?_
      refine td_iastc (j := (ix x6)) kp_98 (by decide) e90 rfl dX10_stepIn_109 ?_
      refine td_iinc 6 (v := x6 + 1) (lv2 := [(0, .ref 85), (1, .int x1), (2, .int x2), (3, .int x3), (4, .int x4), (5, .int x5), (6, .int (x6 + 1))]) dX10_stepIn_110 rfl (congrArg (x6 + ·) (by decide)) (by decide) rfl ?_
      refine td_goto (tgt := 71) dX10_stepIn_113 (by decide) ?_
      exact K
    refine td_if_eq (tgt := 107) dX10_stepIn_98 (by decide) (fun q98 => ?_) (fun q98 => ?_)
    · skip
      refine td_iconst (v := 0) dX10_stepIn_107 (by decide) ?_
      exact td_to KJ108 rfl (by rw [show (if (b2i ((jshr x5 x6) &&& 1 = 1)) = 0 then 0 else (jshl 1 x1) : Int32) = _ from if_pos q98]) rfl
    · skip
      refine td_iconst (v := 1) dX10_stepIn_101 (by decide) ?_
      refine td_iload_n 1 dX10_stepIn_102 rfl ?_
      refine td_ishl dX10_stepIn_103 ?_
      refine td_goto (tgt := 108) dX10_stepIn_104 (by decide) ?_
      exact td_to KJ108 rfl (by rw [show (if (b2i ((jshr x5 x6) &&& 1 = 1)) = 0 then 0 else (jshl 1 x1) : Int32) = _ from if_neg q98]) rfl
theorem rmS.sh {σ σ' : nH} {h : td_H} (x : rmS σ h) (q : Nat) (y : Int32) (e1 : ∀ a b, a ≠ 20 + q → σ' a b = σ a b) (hy : y = ms (fun j => decide (σ' (20 + q) j = 1))) : rmS σ' (hu h 98 q y) := by
  refine ⟨fun p hp => ?_, ?_⟩
  · have z := x.1 p hp
    unfold rmP at z ⊢
    have e2 : ∀ a, a ≤ 6 → ∀ b, σ' a b = σ a b := fun a ha b => e1 a b (by omega)
    have e3 : ∀ a, a ≠ 98 → ∀ b, hu h 98 q y a b = h a b := fun a ha b => by rw [hu_app, if_neg (fun z => ha z.1)]
    simp only [e2 0 (by decide), e2 1 (by decide), e2 2 (by decide), e2 3 (by decide), e2 4 (by decide), e2 5 (by decide), e2 6 (by decide), e3 91 (by decide), e3 92 (by decide), e3 93 (by decide), e3 94 (by decide), e3 95 (by decide), e3 96 (by decide), e3 97 (by decide)]
    refine ⟨z.1, z.2.1, z.2.2.1, z.2.2.2.1, z.2.2.2.2.1, z.2.2.2.2.2.1, z.2.2.2.2.2.2.1, ?_⟩
    rw [hu_app]
    by_cases e : p = q
    · subst e
      rw [if_pos ⟨rfl, rfl⟩, hy]
    · rw [if_neg (fun z => e z.2), z.2.2.2.2.2.2.2]
      exact ms_ext (fun i _ => by rw [e1 (20 + p) i (by omega)])
  · have z := x.2
    unfold rmK at z ⊢
    have e2 : ∀ b, σ' 8 b = σ 8 b := fun b => e1 8 b (by omega)
    have e3 : ∀ b, hu h 98 q y 85 b = h 85 b := fun b => by rw [hu_app, if_neg (by omega)]
    simp only [e2, e3]
    exact z
def sEn (c : nH) (t : Nat) (σ : nH) (p i k : Nat) : nH := fun a b =>
  if a = 0 ∧ b = p then 2 else if a = 1 ∧ b = p then i else if a = 2 ∧ b = p then t else if a = 4 ∧ b = p then t - c 4 p else if a = 6 ∧ b = p then 0
  else if a = 20 + p ∧ inP c σ i b = true then 1 else if (20 ≤ a ∧ a - 20 < k) ∧ inP c σ i (a - 20) = true ∧ b = p then 1 else σ a b
theorem sEn_8 (c : nH) (t : Nat) (σ : nH) (p i k b : Nat) : sEn c t σ p i k 8 b = σ 8 b := by
  unfold sEn
  rw [if_neg (by omega), if_neg (by omega), if_neg (by omega), if_neg (by omega), if_neg (by omega), if_neg (by omega), if_neg (by omega)]
theorem sEn_o (c : nH) (t : Nat) (σ : nH) (p i k a b : Nat) (ha : a ≤ 6) (hb : b ≠ p) : sEn c t σ p i k a b = σ a b := by
  unfold sEn
  rw [if_neg (by omega), if_neg (by omega), if_neg (by omega), if_neg (by omega), if_neg (by omega), if_neg (by omega), if_neg (by omega)]
theorem sEn_s (c : nH) (t : Nat) (σ : nH) (p i k a b : Nat) (ha : a ≠ 20 + k) : sEn c t σ p i (k + 1) a b = sEn c t σ p i k a b := by
  unfold sEn
  have e : ((20 ≤ a ∧ a - 20 < k + 1) ∧ inP c σ i (a - 20) = true ∧ b = p) = ((20 ≤ a ∧ a - 20 < k) ∧ inP c σ i (a - 20) = true ∧ b = p) := by
    apply propext
    constructor
    · intro z; exact ⟨⟨z.1.1, by omega⟩, z.2⟩
    · intro z; exact ⟨⟨z.1.1, by omega⟩, z.2⟩
  simp only [e]
theorem sEn_20 (c : nH) (t : Nat) (σ : nH) (p i k q b : Nat) : sEn c t σ p i k (20 + q) b = if q = p ∧ inP c σ i b = true then 1 else if q < k ∧ inP c σ i q = true ∧ b = p then 1 else σ (20 + q) b := by
  unfold sEn
  rw [if_neg (by omega), if_neg (by omega), if_neg (by omega), if_neg (by omega), if_neg (by omega)]
  have e1 : (20 + q = 20 + p ∧ inP c σ i b = true) = (q = p ∧ inP c σ i b = true) := by apply propext; constructor <;> intro z <;> exact ⟨by omega, z.2⟩
  have e2 : ((20 ≤ 20 + q ∧ 20 + q - 20 < k) ∧ inP c σ i (20 + q - 20) = true ∧ b = p) = (q < k ∧ inP c σ i q = true ∧ b = p) := by
    rw [Nat.add_sub_cancel_left]
    apply propext
    constructor
    · intro z; exact ⟨z.1.2, z.2⟩
    · intro z; exact ⟨⟨by omega, z.1⟩, z.2⟩
  simp only [e1, e2]
theorem sEnter_eq (c : nH) (t : Nat) (σ : nH) (p i : Nat) : sEnter c t σ p i = if caughtB c σ p i = true then nu (nu (sEn c t σ p i (c 1 0)) 5 p 1) 8 2 (c 0 7) else sEn c t σ p i (c 1 0) := by
  funext a b
  have e : ((20 ≤ a ∧ a - 20 < c 1 0) ∧ inP c σ i (a - 20) = true ∧ b = p) = (20 ≤ a ∧ inP c σ i (a - 20) = true ∧ b = p) := by
    apply propext
    constructor
    · intro z; exact ⟨z.1.1, z.2⟩
    · intro z
      have h2 := z.2.1
      unfold inP at h2
      simp at h2
      exact ⟨⟨z.1, h2.1⟩, z.2⟩
  by_cases q : caughtB c σ p i = true
  · rw [if_pos q]
    simp only [nu_app, sEnter, sEn, q, e, and_true]
    by_cases a5 : a = 5
    · subst a5
      by_cases b5 : b = p <;> simp [b5]
    · by_cases a8 : a = 8
      · subst a8
        by_cases b8 : b = 2 <;> simp [b8]
      · simp [a5, a8]
  · rw [if_neg q]
    simp only [sEnter, sEn, q, e, and_false, if_false]
    simp
theorem c_stepIn {G : td_G} {d : Nat} {h : td_H} (c σ : nH) (x1 x2 x3 : Int32) (hc : rmC c h) (hs : rmS σ h) (h1 : vp_in x1 12) (h1n : ix x1 < c 1 0) (h2 : vp_in x2 4) (h3 : vp_in x3 120) (hcm : c 4 (ix x1) ≤ ix x3) : td_C G (d + 2) mX10_stepIn [.ref 85, .int x1, .int x2, .int x3] h (fun r h' => r = none ∧ Fr h h' ∧ rmS (sEnter c (ix x3) σ (ix x1) (ix x2)) h') := by
  obtain ⟨p, hp12, rfl⟩ := vp_in_of h1 (by decide)
  obtain ⟨i, hi4, rfl⟩ := vp_in_of h2 (by decide)
  obtain ⟨t, ht, rfl⟩ := vp_in_of h3 (by decide)
  have ep : ix (nI p) = p := ixn (by omega)
  have ei : ix (nI i) = i := ixn (by omega)
  have et : ix (nI t) = t := ixn (by omega)
  rw [ep] at h1n hcm
  rw [et] at hcm
  rw [ep, ei, et]
  have hn := hc.1.n
  have hpk := hc.1.p h1n
  have v1 : vp_in (10 + 3 * nI p + 1) 46 := of_in hp12 (w := 1) (by decide)
  have v2 : vp_in (10 + 3 * nI p + 2) 46 := of_in hp12 (w := 2) (by decide)
  refine td_entry rfl (Nat.le_of_ble_eq_true rfl) rfl (gX10_stepIn_0 (c := c) (σ := σ) ⟨v2, hc, hs, h2, h1, ?_⟩)
  rw [of_2 hc h1n, ei, ep]
  refine td_forH (c 1 0) (fun k => [(0, .ref 85), (1, .int (nI p)), (2, .int (nI i)), (3, .int (nI t)), (4, .int (nI (c 3 p))), (5, .int (ms (inP c σ i))), (6, .int (nI k))]) (fun k h' => Fr h h' ∧ rmS (sEn c t σ p i k) h') rfl ⟨?_, ?_⟩ (fun k hk h' hP ih => ?_) (fun h' hP => ?_)
  · exact ((((((Fr.rf h).put (by unfold simP; omega) _).put (by unfold simP; omega) _).put (by unfold simP; omega) _).put (by unfold simP; omega) _).put (by unfold simP; omega) _).put (by unfold simP; omega) _
  · have e88 : hu (hu (hu h 91 p 2) 92 p (nI i)) 93 p (nI t) 88 p = nI (c 4 p) := by
      rw [hu_app, if_neg (by omega), hu_app, if_neg (by omega), hu_app, if_neg (by omega)]
      exact (hc.2.2.2.1 p h1n).2.2
    rw [e88, pk_sub hcm]
    have e98 : hu (hu (hu (hu (hu h 91 p 2) 92 p (nI i)) 93 p (nI t)) 95 p (nI (t - c 4 p))) 97 p 0 98 p = ms (fun q => decide (σ (20 + p) q = 1)) := by
      rw [hu_app, if_neg (by omega), hu_app, if_neg (by omega), hu_app, if_neg (by omega), hu_app, if_neg (by omega), hu_app, if_neg (by omega)]
      exact (hs.1 p hp12).2.2.2.2.2.2.2
    rw [e98, ms_or]
    refine ⟨fun q hq => ?_, ?_⟩
    · have z := hs.1 q hq
      unfold rmP at z ⊢
      by_cases e : q = p
      · subst e
        have m0 : sEn c t σ q i 0 0 q = 2 := by simp [sEn]
        have m1 : sEn c t σ q i 0 1 q = i := by simp [sEn]
        have m2 : sEn c t σ q i 0 2 q = t := by simp [sEn]
        have m3 : sEn c t σ q i 0 3 q = σ 3 q := by unfold sEn; rw [if_neg (by omega), if_neg (by omega), if_neg (by omega), if_neg (by omega), if_neg (by omega), if_neg (by omega), if_neg (by omega)]
        have m4 : sEn c t σ q i 0 4 q = t - c 4 q := by simp [sEn]
        have m5 : sEn c t σ q i 0 5 q = σ 5 q := by unfold sEn; rw [if_neg (by omega), if_neg (by omega), if_neg (by omega), if_neg (by omega), if_neg (by omega), if_neg (by omega), if_neg (by omega)]
        have m6 : sEn c t σ q i 0 6 q = 0 := by simp [sEn]
        simp only [m0, m1, m2, m3, m4, m5, m6, hu_app]
        refine ⟨⟨by simp; rfl, by decide⟩, fun _ => ⟨by simp, hi4⟩, by simp [nn_t ht], by simpa using z.2.2.2.1, by simp, by simpa using z.2.2.2.2.2.1, ⟨by simp; rfl, by decide⟩, ?_⟩
        rw [if_pos ⟨trivial, trivial⟩]
        refine ms_ext (fun j _ => ?_)
        rw [sEn_20]
        by_cases y : inP c σ i j = true
        · simp [y]
        · simp [y]
      · have m : ∀ a, a ≤ 6 → sEn c t σ p i 0 a q = σ a q := fun a ha => sEn_o c t σ p i 0 a q ha e
        have mh : ∀ a, hu (hu (hu (hu (hu (hu h 91 p 2) 92 p (nI i)) 93 p (nI t)) 95 p (nI (t - c 4 p))) 97 p 0) 98 p (ms fun i_1 => decide (σ (20 + p) i_1 = 1) || inP c σ i i_1) a q = h a q := fun a => by
          rw [hu_app, if_neg (fun y => e y.2), hu_app, if_neg (fun y => e y.2), hu_app, if_neg (fun y => e y.2), hu_app, if_neg (fun y => e y.2), hu_app, if_neg (fun y => e y.2), hu_app, if_neg (fun y => e y.2)]
        simp only [m 0 (by decide), m 1 (by decide), m 2 (by decide), m 3 (by decide), m 4 (by decide), m 5 (by decide), m 6 (by decide), mh]
        refine ⟨z.1, z.2.1, z.2.2.1, z.2.2.2.1, z.2.2.2.2.1, z.2.2.2.2.2.1, z.2.2.2.2.2.2.1, ?_⟩
        rw [z.2.2.2.2.2.2.2]
        refine ms_ext (fun j _ => ?_)
        rw [sEn_20, if_neg (fun y => e y.1), if_neg (by omega)]
    · have z := hs.2
      unfold rmK at z ⊢
      simp only [sEn_8, hu_app]
      simpa using z
  · obtain ⟨hF, hS⟩ := hP
    have hc' := hF.C hc
    have e9' := hc'.2.2.1
    have hk12 : k < 12 := by omega
    refine gX10_stepIn_71 (c := c) ⟨fun q => absurd (le_of (by rw [e9'] at q; exact q)) (by omega), fun _ => ⟨vp_in_nI hk12 (by decide), ?_⟩⟩
    refine td_to (ih _ ⟨hF.put (by unfold simP; rw [ixn (by omega)]; omega) _, ?_⟩) (by rw [nI_1]) rfl rfl
    rw [ixn (by omega), (hS.1 k hk12).2.2.2.2.2.2.2, b2i_c (p := jshr (ms (inP c σ i)) (nI k) &&& 1 = 1) (q := inP c σ i k = true) (by rw [ms_bit _ hk12]; by_cases y : inP c σ i k = true <;> simp [y]), ms_or1 hp12]
    refine hS.sh k _ (fun a b hab => sEn_s c t σ p i k a b hab) (ms_ext (fun j _ => ?_))
    rw [sEn_20, sEn_20]
    by_cases y1 : k = p ∧ inP c σ i j = true
    · rw [if_pos y1, if_pos y1]
      simp
    · rw [if_neg y1, if_neg y1, if_neg (by omega)]
      by_cases y2 : inP c σ i k = true ∧ j = p
      · rw [if_pos ⟨by omega, y2⟩]
        simp [y2.1, y2.2]
      · rw [if_neg (fun w => y2 w.2)]
        by_cases y3 : inP c σ i k = true
        · have y4 : ¬ j = p := fun w => y2 ⟨y3, w⟩
          simp [y4]
        · simp [y3]
  · obtain ⟨hF, hS⟩ := hP
    have hc' := hF.C hc
    have e9' := hc'.2.2.1
    obtain ⟨⟨k1, k2⟩, ⟨k3, k4⟩, -⟩ := hS.2
    rw [sEn_8] at k1 k2 k3 k4
    have f1 := of_1 hc' h1n
    have e1 : h' 87 1 = nI (c 0 1) := hc'.2.1 1 (by decide)
    have e7 : h' 87 7 = nI (c 0 7) := hc'.2.1 7 (by decide)
    have es : ix (nI (c 2 p)) = c 2 p := ixn (by omega)
    have eT : ix (nI (σ 8 0)) = σ 8 0 := ixn (by omega)
    have hL := hc.1.1
    have hO := hc.1.2.1
    have h7 := hc.1.2.2.2.2.2.2.2.1
    have hw : 12 / c 0 0 ≤ 4 := by
      rcases (by omega : c 0 0 = 3 ∨ c 0 0 = 4) with z | z <;> rw [z] <;> decide
    have s1 := share_le (c 0 0) i (c 2 p) (σ 8 0)
    have vs : vp_in (h' 86 (ix (10 + 3 * nI p + 1))) 2 := by rw [f1]; exact vp_in_nI hpk.1 (by decide)
    have vt : vp_in (h' 85 17) 12 := by rw [k1]; exact vp_in_nI k2 (by decide)
    refine gX10_stepIn_71 (c := c) ⟨fun _ => ⟨⟨fun _ _ => ⟨v1, hc', h2, vs, vt, fun _ => ⟨h1, trivial⟩⟩, fun _ _ _ => ⟨v1, hc', h2, vs, vt, fun _ => ⟨h1, trivial⟩⟩⟩, rfl, ?_⟩, fun q => absurd (nle_of (by rw [e9'] at q; exact q)) (by omega)⟩
    refine byX (fun X => Fr h X ∧ rmS (sEnter c t σ p i) X) (if caughtB c σ p i = true then hu (hu h' 96 p (nI 1)) 85 19 (nI (c 0 7)) else h') ?_ ?_
    · have r7 : hu h' 96 p 1 87 7 = nI (c 0 7) := by rw [hu_app, if_neg (by omega), e7]
      rw [f1, k1, k3, e1, ep, ei, es, eT, r7, ite_c (p := nI (c 3 p) = 1) (q := c 3 p = 1) (nI_eq (b := 1) (by omega) (by decide)) _ _, ite_c (p := nI (c 3 p) = 2) (q := c 3 p = 2) (nI_eq (b := 2) (by omega) (by decide)) _ _, ite_c (p := nI (σ 8 1) = 1) (q := σ 8 1 = 1) (nI_eq (b := 1) (by omega) (by decide)) _ _, ite_c (p := nI (share (c 0 0) i (c 2 p) (σ 8 0)) = nI (c 0 1)) (q := share (c 0 0) i (c 2 p) (σ 8 0) = c 0 1) (nI_eq (by omega) (by omega)) _ _]
      unfold caughtB laden
      by_cases y1 : c 3 p = 1 <;> by_cases y2 : c 3 p = 2 <;> by_cases y3 : σ 8 1 = 1 <;> by_cases y4 : share (c 0 0) i (c 2 p) (σ 8 0) = c 0 1 <;> simp [y1, y2, y3, y4] <;> first | rfl | omega
    · rw [sEnter_eq]
      by_cases y : caughtB c σ p i = true
      · rw [if_pos y, if_pos y]
        exact ⟨(hF.put (by unfold simP; omega) _).put (by unfold simP; omega) _, (hS.cau p 1).stuck h7.2⟩
      · rw [if_neg y, if_neg y]
        exact ⟨hF, hS⟩
