/-! Door: the part for one; the speed -/
def n1 (v : Nat) : Int32 := if v = 12 then -1 else nI v
theorem n1_neg {v : Nat} (h : v = 12 ∨ v < 12) : n1 v < 0 ↔ v = 12 := by
  unfold n1
  by_cases q : v = 12
  · rw [if_pos q]
    exact ⟨fun _ => q, fun _ => by decide⟩
  · rw [if_neg q]
    exact ⟨fun z => absurd z (nI_pos (by omega)), fun z => absurd z q⟩
theorem n1_in {v : Nat} (h : ¬ n1 v < 0) (h2 : v = 12 ∨ v < 12) : n1 v = nI v ∧ v < 12 := by
  have z : v ≠ 12 := fun y => h ((n1_neg h2).mpr y)
  exact ⟨by unfold n1; rw [if_neg z], by omega⟩
theorem prtF_succ (c σ : nH) (p i : Nat) : prtF c σ p (i + 1) = if mayP c σ p i = true ∧ (prtF c σ p i = 12 ∨ share (c 0 0) (prtF c σ p i) (c 2 p) (σ 8 0) < share (c 0 0) i (c 2 p) (σ 8 0)) then i else prtF c σ p i := rfl
theorem prtF_may (c σ : nH) (p : Nat) : ∀ i, prtF c σ p i ≠ 12 → mayP c σ p (prtF c σ p i) = true
  | 0, h => absurd rfl h
  | i + 1, h => by
    rw [prtF_succ] at h ⊢
    by_cases q : mayP c σ p i = true ∧ (prtF c σ p i = 12 ∨ share (c 0 0) (prtF c σ p i) (c 2 p) (σ 8 0) < share (c 0 0) i (c 2 p) (σ 8 0))
    · rw [if_pos q]; exact q.1
    · rw [if_neg q] at h ⊢
      exact prtF_may c σ p i h
theorem exB_f (P : Nat → Bool) : ∀ n, exB P n = false ↔ ∀ p, p < n → P p = false
  | 0 => by simp [exB]
  | n + 1 => by
    rw [exB_succ, Bool.or_eq_false_iff, exB_f P n]
    constructor
    · intro y p hp
      rcases Nat.lt_or_ge p n with w | w
      · exact y.1 p w
      · have : p = n := by omega
        subst this
        exact y.2
    · intro y
      exact ⟨fun p hp => y p (by omega), y n (by omega)⟩
theorem grown_ms (c σ : nH) (i : Nat) (hn : c 1 0 ≤ 12) : (ms (inP c σ i) &&& (ms (kdM c 3) ^^^ (-1)) = 0) ↔ ¬ grown c σ i = true := by
  rw [ms_andn, ms_0, Bool.not_eq_true]
  unfold grown
  rw [exB_f]
  constructor
  · intro y p hp
    have z := y p (by omega)
    by_cases w : inP c σ i p = true
    · simp [w, kdM, hp] at z ⊢
      exact z
    · simp [w]
  · intro y p _
    by_cases w : inP c σ i p = true
    · have hp : p < c 1 0 := by unfold inP at w; simp at w; exact w.1
      have z := y p hp
      simp [w, kdM, hp] at z ⊢
      exact z
    · simp [w]
def bsh (c σ : nH) (p i : Nat) : Nat := if prtF c σ p i = 12 then c 0 1 - 1 else share (c 0 0) (prtF c σ p i) (c 2 p) (σ 8 0)
set_option maxRecDepth 20000 in
set_option maxHeartbeats 4000000 in
theorem gX0_partFor_0 {G : td_G} {d : Nat} {Post : td_P} {c : nH} {k0 : Nat} {x1 x2 : Int32} {h : td_H} (hk0 : td_kd k0 = 0) (K : ((h k0 12) < 2 → (td_kd (ix (h k0 5)) = 5 ∧ (dP c (ix (h k0 5)) h ∧ vp_in x1 12 ∧ ix x1 < c 1 0 ∧ (td_J G (d + 1) mX0_partFor Post 67 [(0, .ref k0), (1, .int x1), (2, .int x2), (3, .int (nI (szk (c 3 (ix x1))))), (4, .int (if (h (ix (h k0 5) + 4) (ix x1)) = 3 then 1 else 0 : Int32)), (5, .int (-1)), (6, .int ((h (k0 + 1) 6) - 1)), (7, .int 0)] [] h)))) ∧ (¬ (h k0 12) < 2 → (td_kd (ix (h k0 5)) = 5 ∧ (dP c (ix (h k0 5)) h ∧ vp_in x1 12 ∧ ix x1 < c 1 0 ∧ (((b2i (laden (c 3 (ix x1)) = true)) = 0 → td_J G (d + 1) mX0_partFor Post 67 [(0, .ref k0), (1, .int x1), (2, .int x2), (3, .int (nI (szk (c 3 (ix x1))))), (4, .int (if (h (ix (h k0 5) + 4) (ix x1)) = 3 then 1 else 0 : Int32)), (5, .int (-1)), (6, .int ((h (k0 + 1) 6) - 1)), (7, .int 0)] [] h) ∧ (¬ (b2i (laden (c 3 (ix x1)) = true)) = 0 → (Post (some (.int (-1))) h))))))) : td_J G (d + 1) mX0_partFor Post 0 [(0, .ref k0), (1, .int x1), (2, .int x2)] [] h := by
  refine td_aload_n 0 dX0_partFor_0 rfl ?_
  refine gf_X0_61 rfl hk0 dX0_partFor_1 ?_
  refine td_iconst (v := 2) dX0_partFor_4 (by decide) ?_
  obtain ⟨Kt, Kf⟩ := K
  refine td_icmp_lt (tgt := 21) dX0_partFor_5 (by decide) (fun q5 => ?_) (fun q5 => ?_)
  · have K := Kt q5
    refine td_aload_n 0 dX0_partFor_21 rfl ?_
    refine gf_X0_38 rfl hk0 dX0_partFor_22 ?_
    obtain ⟨e22, K⟩ := K
    refine td_iload_n 1 dX0_partFor_25 rfl ?_
    obtain ⟨e26_0, K⟩ := K
    obtain ⟨e26_1, K⟩ := K
    obtain ⟨e26_2, K⟩ := K
    refine cl_X0_150 rfl e22 dX0_partFor_26 (Nat.le_of_ble_eq_true rfl) (c_P_sizeOf e22 c x1 e26_0 e26_1 e26_2) (eR_k ?_)
    refine td_eqs (st2 := [.int (nI (szk (c 3 (ix x1))))]) rfl ?_
    refine td_istore_n (lv2 := [(0, .ref k0), (1, .int x1), (2, .int x2), (3, .int (nI (szk (c 3 (ix x1)))))]) dX0_partFor_29 (by decide) rfl ?_
    refine td_aload_n 0 dX0_partFor_30 rfl ?_
    refine gf_X0_38 rfl hk0 dX0_partFor_31 ?_
    refine gf_X0_97 rfl e22 dX0_partFor_34 ?_
    refine td_iload_n 1 dX0_partFor_37 rfl ?_
    refine td_ialdc (j := (ix x1)) (kd_5_3 e22) (by decide) e26_1 rfl dX0_partFor_38 ?_
    refine td_iconst (v := 3) dX0_partFor_39 (by decide) ?_
    have KJ48 : td_J G (d + 1) mX0_partFor Post 48 [(0, .ref k0), (1, .int x1), (2, .int x2), (3, .int (nI (szk (c 3 (ix x1)))))] [.int (if (h (ix (h k0 5) + 4) (ix x1)) = 3 then 1 else 0 : Int32)] h := by
      refine td_istore (lv2 := [(0, .ref k0), (1, .int x1), (2, .int x2), (3, .int (nI (szk (c 3 (ix x1))))), (4, .int (if (h (ix (h k0 5) + 4) (ix x1)) = 3 then 1 else 0 : Int32))]) dX0_partFor_48 (by decide) rfl ?_
      refine td_iconst (v := (-1)) dX0_partFor_50 (by decide) ?_
      refine td_istore (lv2 := [(0, .ref k0), (1, .int x1), (2, .int x2), (3, .int (nI (szk (c 3 (ix x1))))), (4, .int (if (h (ix (h k0 5) + 4) (ix x1)) = 3 then 1 else 0 : Int32)), (5, .int (-1))]) dX0_partFor_51 (by decide) rfl ?_
      refine td_aload_n 0 dX0_partFor_53 rfl ?_
      refine gf_X0_12 rfl hk0 dX0_partFor_54 ?_
      refine gf_X0_173 rfl (kd_0_0 hk0) dX0_partFor_57 ?_
      refine td_iconst (v := 1) dX0_partFor_60 (by decide) ?_
      refine td_isub dX0_partFor_61 ?_
      refine td_istore (lv2 := [(0, .ref k0), (1, .int x1), (2, .int x2), (3, .int (nI (szk (c 3 (ix x1))))), (4, .int (if (h (ix (h k0 5) + 4) (ix x1)) = 3 then 1 else 0 : Int32)), (5, .int (-1)), (6, .int ((h (k0 + 1) 6) - 1))]) dX0_partFor_62 (by decide) rfl ?_
      refine td_iconst (v := 0) dX0_partFor_64 (by decide) ?_
      refine td_istore (lv2 := [(0, .ref k0), (1, .int x1), (2, .int x2), (3, .int (nI (szk (c 3 (ix x1))))), (4, .int (if (h (ix (h k0 5) + 4) (ix x1)) = 3 then 1 else 0 : Int32)), (5, .int (-1)), (6, .int ((h (k0 + 1) 6) - 1)), (7, .int 0)]) dX0_partFor_65 (by decide) rfl ?_
      exact K
    refine td_icmp_ne (tgt := 47) dX0_partFor_40 (by decide) (fun q40 => ?_) (fun q40 => ?_)
    · skip
      refine td_iconst (v := 0) dX0_partFor_47 (by decide) ?_
      exact td_to KJ48 rfl (by rw [show (if (h (ix (h k0 5) + 4) (ix x1)) = 3 then 1 else 0 : Int32) = _ from if_neg q40]) rfl
    · skip
      refine td_iconst (v := 1) dX0_partFor_43 (by decide) ?_
      refine td_goto (tgt := 48) dX0_partFor_44 (by decide) ?_
      exact td_to KJ48 rfl (by rw [show (if (h (ix (h k0 5) + 4) (ix x1)) = 3 then 1 else 0 : Int32) = _ from if_pos q40]) rfl
  · have K := Kf q5
    refine td_aload_n 0 dX0_partFor_8 rfl ?_
    refine gf_X0_38 rfl hk0 dX0_partFor_9 ?_
    obtain ⟨e9, K⟩ := K
    refine td_iload_n 1 dX0_partFor_12 rfl ?_
    obtain ⟨e13_0, K⟩ := K
    obtain ⟨e13_1, K⟩ := K
    obtain ⟨e13_2, K⟩ := K
    refine cl_X0_169 rfl e9 dX0_partFor_13 (Nat.le_of_ble_eq_true rfl) (c_P_isLaden e9 c x1 e13_0 e13_1 e13_2) (eR_k ?_)
    refine td_eqs (st2 := [.int (b2i (laden (c 3 (ix x1)) = true))]) rfl ?_
    obtain ⟨Kt, Kf⟩ := K
    refine td_if_eq (tgt := 21) dX0_partFor_16 (by decide) (fun q16 => ?_) (fun q16 => ?_)
    · have K := Kt q16
      refine td_aload_n 0 dX0_partFor_21 rfl ?_
      refine gf_X0_38 rfl hk0 dX0_partFor_22 ?_
      refine td_iload_n 1 dX0_partFor_25 rfl ?_
      refine cl_X0_150 rfl e9 dX0_partFor_26 (Nat.le_of_ble_eq_true rfl) (c_P_sizeOf e9 c x1 e13_0 e13_1 e13_2) (eR_k ?_)
      refine td_eqs (st2 := [.int (nI (szk (c 3 (ix x1))))]) rfl ?_
      refine td_istore_n (lv2 := [(0, .ref k0), (1, .int x1), (2, .int x2), (3, .int (nI (szk (c 3 (ix x1)))))]) dX0_partFor_29 (by decide) rfl ?_
      refine td_aload_n 0 dX0_partFor_30 rfl ?_
      refine gf_X0_38 rfl hk0 dX0_partFor_31 ?_
      refine gf_X0_97 rfl e9 dX0_partFor_34 ?_
      refine td_iload_n 1 dX0_partFor_37 rfl ?_
      refine td_ialdc (j := (ix x1)) (kd_5_3 e9) (by decide) e13_1 rfl dX0_partFor_38 ?_
      refine td_iconst (v := 3) dX0_partFor_39 (by decide) ?_
      have KJ48 : td_J G (d + 1) mX0_partFor Post 48 [(0, .ref k0), (1, .int x1), (2, .int x2), (3, .int (nI (szk (c 3 (ix x1)))))] [.int (if (h (ix (h k0 5) + 4) (ix x1)) = 3 then 1 else 0 : Int32)] h := by
        refine td_istore (lv2 := [(0, .ref k0), (1, .int x1), (2, .int x2), (3, .int (nI (szk (c 3 (ix x1))))), (4, .int (if (h (ix (h k0 5) + 4) (ix x1)) = 3 then 1 else 0 : Int32))]) dX0_partFor_48 (by decide) rfl ?_
        refine td_iconst (v := (-1)) dX0_partFor_50 (by decide) ?_
        refine td_istore (lv2 := [(0, .ref k0), (1, .int x1), (2, .int x2), (3, .int (nI (szk (c 3 (ix x1))))), (4, .int (if (h (ix (h k0 5) + 4) (ix x1)) = 3 then 1 else 0 : Int32)), (5, .int (-1))]) dX0_partFor_51 (by decide) rfl ?_
        refine td_aload_n 0 dX0_partFor_53 rfl ?_
        refine gf_X0_12 rfl hk0 dX0_partFor_54 ?_
        refine gf_X0_173 rfl (kd_0_0 hk0) dX0_partFor_57 ?_
        refine td_iconst (v := 1) dX0_partFor_60 (by decide) ?_
        refine td_isub dX0_partFor_61 ?_
        refine td_istore (lv2 := [(0, .ref k0), (1, .int x1), (2, .int x2), (3, .int (nI (szk (c 3 (ix x1))))), (4, .int (if (h (ix (h k0 5) + 4) (ix x1)) = 3 then 1 else 0 : Int32)), (5, .int (-1)), (6, .int ((h (k0 + 1) 6) - 1))]) dX0_partFor_62 (by decide) rfl ?_
        refine td_iconst (v := 0) dX0_partFor_64 (by decide) ?_
        refine td_istore (lv2 := [(0, .ref k0), (1, .int x1), (2, .int x2), (3, .int (nI (szk (c 3 (ix x1))))), (4, .int (if (h (ix (h k0 5) + 4) (ix x1)) = 3 then 1 else 0 : Int32)), (5, .int (-1)), (6, .int ((h (k0 + 1) 6) - 1)), (7, .int 0)]) dX0_partFor_65 (by decide) rfl ?_
        exact K
      refine td_icmp_ne (tgt := 47) dX0_partFor_40 (by decide) (fun q40 => ?_) (fun q40 => ?_)
      · skip
        refine td_iconst (v := 0) dX0_partFor_47 (by decide) ?_
        exact td_to KJ48 rfl (by rw [show (if (h (ix (h k0 5) + 4) (ix x1)) = 3 then 1 else 0 : Int32) = _ from if_neg q40]) rfl
      · skip
        refine td_iconst (v := 1) dX0_partFor_43 (by decide) ?_
        refine td_goto (tgt := 48) dX0_partFor_44 (by decide) ?_
        exact td_to KJ48 rfl (by rw [show (if (h (ix (h k0 5) + 4) (ix x1)) = 3 then 1 else 0 : Int32) = _ from if_pos q40]) rfl
    · have K := Kf q16
      refine td_iconst (v := (-1)) dX0_partFor_19 (by decide) ?_
      exact td_ireturn rfl dX0_partFor_20 K
set_option maxRecDepth 20000 in
set_option maxHeartbeats 4000000 in
theorem gX0_partFor_67 {G : td_G} {d : Nat} {Post : td_P} {c σ : nH} {k0 : Nat} {x1 x2 x3 x4 x5 x6 x7 : Int32} {h : td_H} (hk0 : td_kd k0 = 0) (K : ((h (k0 + 1) 5) ≤ x7 → (Post (some (.int x5)) h)) ∧ (¬ (h (k0 + 1) 5) ≤ x7 → ((4 ≤ x7 → (Post (some (.int x5)) h)) ∧ (¬ 4 ≤ x7 → (dLay (c 0 0) (c 0 1) ((k0 + 1)) h ∧ vp_in x7 4 ∧ vp_in x2 2 ∧ (h ((k0 + 1)) 7 = nI (σ 8 0) ∧ σ 8 0 < 12) ∧ (td_J G (d + 1) mX0_partFor Post 67 [(0, .ref k0), (1, .int x1), (2, .int x2), (3, .int x3), (4, .int x4), (5, .int (if (nI (share (c 0 0) (ix x7) (ix x2) (σ 8 0))) ≤ x6 then x5 else if (h ((k0 + 1) + 4) (ix x7)) < x3 then x5 else if x4 = 0 then x7 else if ((h ((k0 + 1) + 3) (ix x7)) &&& ((h k0 7) ^^^ (-1))) = 0 then x5 else x7 : Int32)), (6, .int (if (nI (share (c 0 0) (ix x7) (ix x2) (σ 8 0))) ≤ x6 then x6 else if (h ((k0 + 1) + 4) (ix x7)) < x3 then x6 else if x4 = 0 then (nI (share (c 0 0) (ix x7) (ix x2) (σ 8 0))) else if ((h ((k0 + 1) + 3) (ix x7)) &&& ((h k0 7) ^^^ (-1))) = 0 then x6 else (nI (share (c 0 0) (ix x7) (ix x2) (σ 8 0))) : Int32)), (7, .int (x7 + 1))] [] h)))))) : td_J G (d + 1) mX0_partFor Post 67 [(0, .ref k0), (1, .int x1), (2, .int x2), (3, .int x3), (4, .int x4), (5, .int x5), (6, .int x6), (7, .int x7)] [] h := by
  refine td_iload 7 dX0_partFor_67 rfl ?_
  refine td_aload_n 0 dX0_partFor_69 rfl ?_
  refine gf_X0_12 rfl hk0 dX0_partFor_70 ?_
  refine gf_X0_176 rfl (kd_0_0 hk0) dX0_partFor_73 ?_
  obtain ⟨Kt, Kf⟩ := K
  refine td_icmp_ge (tgt := 157) dX0_partFor_76 (by decide) (fun q76 => ?_) (fun q76 => ?_)
  · have K := Kt q76
    refine td_iload 5 dX0_partFor_157 rfl ?_
    exact td_ireturn rfl dX0_partFor_159 K
  · have K := Kf q76
    refine td_iload 7 dX0_partFor_79 rfl ?_
    refine td_iconst (v := 4) dX0_partFor_81 (by decide) ?_
    obtain ⟨Kt, Kf⟩ := K
    refine td_icmp_ge (tgt := 157) dX0_partFor_82 (by decide) (fun q82 => ?_) (fun q82 => ?_)
    · have K := Kt q82
      refine td_iload 5 dX0_partFor_157 rfl ?_
      exact td_ireturn rfl dX0_partFor_159 K
    · have K := Kf q82
      refine td_aload_n 0 dX0_partFor_85 rfl ?_
      refine gf_X0_12 rfl hk0 dX0_partFor_86 ?_
      refine td_iload 7 dX0_partFor_89 rfl ?_
      refine td_iload_n 2 dX0_partFor_91 rfl ?_
      obtain ⟨e92_0, K⟩ := K
      obtain ⟨e92_1, K⟩ := K
      obtain ⟨e92_2, K⟩ := K
      obtain ⟨e92_3, K⟩ := K
      refine cl_X0_179 rfl (kd_0_0 hk0) dX0_partFor_92 (Nat.le_of_ble_eq_true rfl) (c_shareAt (kd_0_0 hk0) (c 0 0) (c 0 1) (σ 8 0) x7 x2 e92_0 e92_1 e92_2 e92_3) (eR_k ?_)
      refine td_eqs (st2 := [.int (nI (share (c 0 0) (ix x7) (ix x2) (σ 8 0)))]) rfl ?_
      refine td_istore (lv2 := [(0, .ref k0), (1, .int x1), (2, .int x2), (3, .int x3), (4, .int x4), (5, .int x5), (6, .int x6), (7, .int x7), (8, .int (nI (share (c 0 0) (ix x7) (ix x2) (σ 8 0))))]) dX0_partFor_95 (by decide) rfl ?_
      refine td_iload 8 dX0_partFor_97 rfl ?_
      refine td_iload 6 dX0_partFor_99 rfl ?_
      have KJ151 : td_J G (d + 1) mX0_partFor Post 151 [(0, .ref k0), (1, .int x1), (2, .int x2), (3, .int x3), (4, .int x4), (5, .int (if (nI (share (c 0 0) (ix x7) (ix x2) (σ 8 0))) ≤ x6 then x5 else if (h ((k0 + 1) + 4) (ix x7)) < x3 then x5 else if x4 = 0 then x7 else if ((h ((k0 + 1) + 3) (ix x7)) &&& ((h k0 7) ^^^ (-1))) = 0 then x5 else x7 : Int32)), (6, .int (if (nI (share (c 0 0) (ix x7) (ix x2) (σ 8 0))) ≤ x6 then x6 else if (h ((k0 + 1) + 4) (ix x7)) < x3 then x6 else if x4 = 0 then (nI (share (c 0 0) (ix x7) (ix x2) (σ 8 0))) else if ((h ((k0 + 1) + 3) (ix x7)) &&& ((h k0 7) ^^^ (-1))) = 0 then x6 else (nI (share (c 0 0) (ix x7) (ix x2) (σ 8 0))) : Int32)), (7, .int x7), (8, .int (nI (share (c 0 0) (ix x7) (ix x2) (σ 8 0))))] [] h := by
        refine td_iinc 7 (v := x7 + 1) (lv2 := [(0, .ref k0), (1, .int x1), (2, .int x2), (3, .int x3), (4, .int x4), (5, .int (if (nI (share (c 0 0) (ix x7) (ix x2) (σ 8 0))) ≤ x6 then x5 else if (h ((k0 + 1) + 4) (ix x7)) < x3 then x5 else if x4 = 0 then x7 else if ((h ((k0 + 1) + 3) (ix x7)) &&& ((h k0 7) ^^^ (-1))) = 0 then x5 else x7 : Int32)), (6, .int (if (nI (share (c 0 0) (ix x7) (ix x2) (σ 8 0))) ≤ x6 then x6 else if (h ((k0 + 1) + 4) (ix x7)) < x3 then x6 else if x4 = 0 then (nI (share (c 0 0) (ix x7) (ix x2) (σ 8 0))) else if ((h ((k0 + 1) + 3) (ix x7)) &&& ((h k0 7) ^^^ (-1))) = 0 then x6 else (nI (share (c 0 0) (ix x7) (ix x2) (σ 8 0))) : Int32)), (7, .int (x7 + 1)), (8, .int (nI (share (c 0 0) (ix x7) (ix x2) (σ 8 0))))]) dX0_partFor_151 rfl (congrArg (x7 + ·) (by decide)) (by decide) rfl ?_
        refine td_goto (tgt := 67) dX0_partFor_154 (by decide) ?_
        refine td_drop (lv2 := [(0, .ref k0), (1, .int x1), (2, .int x2), (3, .int x3), (4, .int x4), (5, .int (if (nI (share (c 0 0) (ix x7) (ix x2) (σ 8 0))) ≤ x6 then x5 else if (h ((k0 + 1) + 4) (ix x7)) < x3 then x5 else if x4 = 0 then x7 else if ((h ((k0 + 1) + 3) (ix x7)) &&& ((h k0 7) ^^^ (-1))) = 0 then x5 else x7 : Int32)), (6, .int (if (nI (share (c 0 0) (ix x7) (ix x2) (σ 8 0))) ≤ x6 then x6 else if (h ((k0 + 1) + 4) (ix x7)) < x3 then x6 else if x4 = 0 then (nI (share (c 0 0) (ix x7) (ix x2) (σ 8 0))) else if ((h ((k0 + 1) + 3) (ix x7)) &&& ((h k0 7) ^^^ (-1))) = 0 then x6 else (nI (share (c 0 0) (ix x7) (ix x2) (σ 8 0))) : Int32)), (7, .int (x7 + 1))]) [0, 1, 2, 3, 4, 5, 6, 7] rfl ?_
        exact K
      refine td_icmp_le (tgt := 151) dX0_partFor_101 (by decide) (fun q101 => ?_) (fun q101 => ?_)
      · skip
        exact td_to KJ151 (by rw [show (if (nI (share (c 0 0) (ix x7) (ix x2) (σ 8 0))) ≤ x6 then x5 else if (h ((k0 + 1) + 4) (ix x7)) < x3 then x5 else if x4 = 0 then x7 else if ((h ((k0 + 1) + 3) (ix x7)) &&& ((h k0 7) ^^^ (-1))) = 0 then x5 else x7 : Int32) = _ from if_pos q101, show (if (nI (share (c 0 0) (ix x7) (ix x2) (σ 8 0))) ≤ x6 then x6 else if (h ((k0 + 1) + 4) (ix x7)) < x3 then x6 else if x4 = 0 then (nI (share (c 0 0) (ix x7) (ix x2) (σ 8 0))) else if ((h ((k0 + 1) + 3) (ix x7)) &&& ((h k0 7) ^^^ (-1))) = 0 then x6 else (nI (share (c 0 0) (ix x7) (ix x2) (σ 8 0))) : Int32) = _ from if_pos q101]) rfl rfl
      · skip
        refine td_aload_n 0 dX0_partFor_104 rfl ?_
        refine gf_X0_12 rfl hk0 dX0_partFor_105 ?_
        refine gf_X0_182 rfl (kd_0_0 hk0) dX0_partFor_108 ?_
        refine td_iload 7 dX0_partFor_111 rfl ?_
        refine td_ialdc (j := (ix x7)) (kd_1_3 (kd_0_0 hk0)) (by decide) e92_1 rfl dX0_partFor_113 ?_
        refine td_iload_n 3 dX0_partFor_114 rfl ?_
        refine td_icmp_lt (tgt := 151) dX0_partFor_115 (by decide) (fun q115 => ?_) (fun q115 => ?_)
        · skip
          exact td_to KJ151 (by rw [show (if (nI (share (c 0 0) (ix x7) (ix x2) (σ 8 0))) ≤ x6 then x5 else if (h ((k0 + 1) + 4) (ix x7)) < x3 then x5 else if x4 = 0 then x7 else if ((h ((k0 + 1) + 3) (ix x7)) &&& ((h k0 7) ^^^ (-1))) = 0 then x5 else x7 : Int32) = _ from (if_neg q101).trans (if_pos q115), show (if (nI (share (c 0 0) (ix x7) (ix x2) (σ 8 0))) ≤ x6 then x6 else if (h ((k0 + 1) + 4) (ix x7)) < x3 then x6 else if x4 = 0 then (nI (share (c 0 0) (ix x7) (ix x2) (σ 8 0))) else if ((h ((k0 + 1) + 3) (ix x7)) &&& ((h k0 7) ^^^ (-1))) = 0 then x6 else (nI (share (c 0 0) (ix x7) (ix x2) (σ 8 0))) : Int32) = _ from (if_neg q101).trans (if_pos q115)]) rfl rfl
        · skip
          refine td_iload 4 dX0_partFor_118 rfl ?_
          refine td_if_eq (tgt := 143) dX0_partFor_120 (by decide) (fun q120 => ?_) (fun q120 => ?_)
          · skip
            refine td_iload 7 dX0_partFor_143 rfl ?_
            refine td_istore (lv2 := [(0, .ref k0), (1, .int x1), (2, .int x2), (3, .int x3), (4, .int x4), (5, .int x7), (6, .int x6), (7, .int x7), (8, .int (nI (share (c 0 0) (ix x7) (ix x2) (σ 8 0))))]) dX0_partFor_145 (by decide) rfl ?_
            refine td_iload 8 dX0_partFor_147 rfl ?_
            refine td_istore (lv2 := [(0, .ref k0), (1, .int x1), (2, .int x2), (3, .int x3), (4, .int x4), (5, .int x7), (6, .int (nI (share (c 0 0) (ix x7) (ix x2) (σ 8 0)))), (7, .int x7), (8, .int (nI (share (c 0 0) (ix x7) (ix x2) (σ 8 0))))]) dX0_partFor_149 (by decide) rfl ?_
            exact td_to KJ151 (by rw [show (if (nI (share (c 0 0) (ix x7) (ix x2) (σ 8 0))) ≤ x6 then x5 else if (h ((k0 + 1) + 4) (ix x7)) < x3 then x5 else if x4 = 0 then x7 else if ((h ((k0 + 1) + 3) (ix x7)) &&& ((h k0 7) ^^^ (-1))) = 0 then x5 else x7 : Int32) = _ from (if_neg q101).trans ((if_neg q115).trans (if_pos q120)), show (if (nI (share (c 0 0) (ix x7) (ix x2) (σ 8 0))) ≤ x6 then x6 else if (h ((k0 + 1) + 4) (ix x7)) < x3 then x6 else if x4 = 0 then (nI (share (c 0 0) (ix x7) (ix x2) (σ 8 0))) else if ((h ((k0 + 1) + 3) (ix x7)) &&& ((h k0 7) ^^^ (-1))) = 0 then x6 else (nI (share (c 0 0) (ix x7) (ix x2) (σ 8 0))) : Int32) = _ from (if_neg q101).trans ((if_neg q115).trans (if_pos q120))]) rfl rfl
          · skip
            refine td_aload_n 0 dX0_partFor_123 rfl ?_
            refine gf_X0_12 rfl hk0 dX0_partFor_124 ?_
            refine gf_X0_185 rfl (kd_0_0 hk0) dX0_partFor_127 ?_
            refine td_iload 7 dX0_partFor_130 rfl ?_
            refine td_ialdc (j := (ix x7)) (kd_1_2 (kd_0_0 hk0)) (by decide) e92_1 rfl dX0_partFor_132 ?_
            refine td_aload_n 0 dX0_partFor_133 rfl ?_
            refine gf_X0_76 rfl hk0 dX0_partFor_134 ?_
            refine td_iconst (v := (-1)) dX0_partFor_137 (by decide) ?_
            refine td_ixor dX0_partFor_138 ?_
            refine td_iand dX0_partFor_139 ?_
            refine td_if_eq (tgt := 151) dX0_partFor_140 (by decide) (fun q140 => ?_) (fun q140 => ?_)
            · skip
              exact td_to KJ151 (by rw [show (if (nI (share (c 0 0) (ix x7) (ix x2) (σ 8 0))) ≤ x6 then x5 else if (h ((k0 + 1) + 4) (ix x7)) < x3 then x5 else if x4 = 0 then x7 else if ((h ((k0 + 1) + 3) (ix x7)) &&& ((h k0 7) ^^^ (-1))) = 0 then x5 else x7 : Int32) = _ from (if_neg q101).trans ((if_neg q115).trans ((if_neg q120).trans (if_pos q140))), show (if (nI (share (c 0 0) (ix x7) (ix x2) (σ 8 0))) ≤ x6 then x6 else if (h ((k0 + 1) + 4) (ix x7)) < x3 then x6 else if x4 = 0 then (nI (share (c 0 0) (ix x7) (ix x2) (σ 8 0))) else if ((h ((k0 + 1) + 3) (ix x7)) &&& ((h k0 7) ^^^ (-1))) = 0 then x6 else (nI (share (c 0 0) (ix x7) (ix x2) (σ 8 0))) : Int32) = _ from (if_neg q101).trans ((if_neg q115).trans ((if_neg q120).trans (if_pos q140)))]) rfl rfl
            · skip
              refine td_iload 7 dX0_partFor_143 rfl ?_
              refine td_istore (lv2 := [(0, .ref k0), (1, .int x1), (2, .int x2), (3, .int x3), (4, .int x4), (5, .int x7), (6, .int x6), (7, .int x7), (8, .int (nI (share (c 0 0) (ix x7) (ix x2) (σ 8 0))))]) dX0_partFor_145 (by decide) rfl ?_
              refine td_iload 8 dX0_partFor_147 rfl ?_
              refine td_istore (lv2 := [(0, .ref k0), (1, .int x1), (2, .int x2), (3, .int x3), (4, .int x4), (5, .int x7), (6, .int (nI (share (c 0 0) (ix x7) (ix x2) (σ 8 0)))), (7, .int x7), (8, .int (nI (share (c 0 0) (ix x7) (ix x2) (σ 8 0))))]) dX0_partFor_149 (by decide) rfl ?_
              exact td_to KJ151 (by rw [show (if (nI (share (c 0 0) (ix x7) (ix x2) (σ 8 0))) ≤ x6 then x5 else if (h ((k0 + 1) + 4) (ix x7)) < x3 then x5 else if x4 = 0 then x7 else if ((h ((k0 + 1) + 3) (ix x7)) &&& ((h k0 7) ^^^ (-1))) = 0 then x5 else x7 : Int32) = _ from (if_neg q101).trans ((if_neg q115).trans ((if_neg q120).trans (if_neg q140))), show (if (nI (share (c 0 0) (ix x7) (ix x2) (σ 8 0))) ≤ x6 then x6 else if (h ((k0 + 1) + 4) (ix x7)) < x3 then x6 else if x4 = 0 then (nI (share (c 0 0) (ix x7) (ix x2) (σ 8 0))) else if ((h ((k0 + 1) + 3) (ix x7)) &&& ((h k0 7) ^^^ (-1))) = 0 then x6 else (nI (share (c 0 0) (ix x7) (ix x2) (σ 8 0))) : Int32) = _ from (if_neg q101).trans ((if_neg q115).trans ((if_neg q120).trans (if_neg q140)))]) rfl rfl
theorem c_C_partFor {G : td_G} {d : Nat} {h : td_H} {k q : Nat} {c σ : nH} {Q : Nat → Nat} (x1 x2 : Int32) (hQ : dQ c Q k q h) (hV : dV c σ k h) (ok : sOK c σ) (h1 : vp_in x1 12) (h1n : ix x1 < c 1 0) (h2 : x2 = nI (c 2 (ix x1))) : td_C G (d + 1) mX0_partFor [.ref k, .int x1, .int x2] h (eR (n1 (prt c σ (ix x1))) h) := by
  obtain ⟨p, hp12, rfl⟩ := vp_in_of h1 (by decide)
  have ep : ix (nI p) = p := ixn (by omega)
  rw [ep] at h1n h2 ⊢
  subst h2
  have hk := hQ.1
  have hPl := hQ.2.2.2.2.1
  have hwf := hPl.1
  have hn := hwf.n
  have hL := hwf.1
  have hO := hwf.2.1
  have hR := hwf.2.2.1
  have hpk := hwf.p h1n
  have hk107 := td_kd_lt hk (by decide)
  have e5 : ix (h k 5) = q := by rw [hQ.2.2.2.1]; exact ixn (by have := hQ.2.2.1; omega)
  have kq : td_kd (ix (h k 5)) = 5 := by rw [e5]; exact hQ.2.1
  have e12 := hV.1.2.2.1
  have eL : h (k + 1) 5 = nI (c 0 0) := hQ.2.2.2.2.2.1.2.2.1
  have eO : h (k + 1) 6 = nI (c 0 1) := hQ.2.2.2.2.2.1.2.2.2.1
  have hw : 12 / c 0 0 ≤ 4 := by
    rcases (by omega : c 0 0 = 3 ∨ c 0 0 = 4) with z | z <;> rw [z] <;> decide
  have ek : (if h (ix (h k 5) + 4) p = 3 then 1 else 0 : Int32) = b2i (c 3 p = 3) := by
    rw [e5, (hPl.2.2.2 p h1n).2.2]
    exact ite_c (nI_eq (b := 3) (by omega) (by decide)) _ _
  have es : ix (nI (c 2 p)) = c 2 p := ixn (by omega)
  have hsp := ok.2.1
  -- the loop
  have loop : ∀ v, v = n1 (prtF c σ p (c 0 0)) → td_J G (d + 1) mX0_partFor (eR v h) 67 [(0, .ref k), (1, .int (nI p)), (2, .int (nI (c 2 p))), (3, .int (nI (szk (c 3 p)))), (4, .int (b2i (c 3 p = 3))), (5, .int (-1)), (6, .int (nI (c 0 1) - 1)), (7, .int 0)] [] h := by
    intro v hv
    refine td_for (c 0 0) (fun i => [(0, .ref k), (1, .int (nI p)), (2, .int (nI (c 2 p))), (3, .int (nI (szk (c 3 p)))), (4, .int (b2i (c 3 p = 3))), (5, .int (n1 (prtF c σ p i))), (6, .int (nI (bsh c σ p i))), (7, .int (nI i))]) (fun _ => h) ?_ rfl (fun i hi ih => ?_) ?_
    · have : nI (c 0 1) - 1 = nI (bsh c σ p 0) := by
        unfold bsh
        rw [if_pos (show prtF c σ p 0 = 12 from rfl)]
        exact pk_sub (b := 1) (by omega)
      rw [this]; rfl
    · have vi : vp_in (nI i) 4 := vp_in_nI (by omega) (by decide)
      refine gX0_partFor_67 (c := c) (σ := σ) hk ⟨fun y => absurd (le_of (by rw [eL] at y; exact y)) (by omega), fun _ => ⟨fun y => absurd (le_of (a := 4) y) (by omega), fun _ => ⟨hQ.2.2.2.2.2.1, vi, vp_in_nI hpk.1 (by decide), ⟨hV.2.2.1.1, ok.1⟩, ?_⟩⟩⟩
      have ei : ix (nI i) = i := ixn (by omega)
      have hPi := hV.2.2.2.1 i (by omega)
      have hu := used_le c σ i hn
      have hsz := szk_le (c 3 p)
      have hsp' := szk_pos (c 3 p)
      have sh := share_le (c 0 0) i (c 2 p) (σ 8 0)
      have hb := prtF_lt c σ p i
      have hbs : bsh c σ p i ≤ 4 := by
        unfold bsh
        split
        · omega
        · exact Nat.le_trans (share_le _ _ _ _) hw
      rw [ei, es, show k + 1 + 4 = k + 5 from rfl, show k + 1 + 3 = k + 4 from rfl, hPi.1, hPi.2, hQ.2.2.2.2.2.2.2.2.1, nI_1, b2i_ite, b2i_ite]
      refine td_to ih ?_ rfl rfl
      have cA : (nI (share (c 0 0) i (c 2 p) (σ 8 0)) ≤ nI (bsh c σ p i)) ↔ share (c 0 0) i (c 2 p) (σ 8 0) ≤ bsh c σ p i := nI_leI (by omega) (by omega)
      have cB : (nI (c 0 2 - used c σ i) < nI (szk (c 3 p))) ↔ c 0 2 - used c σ i < szk (c 3 p) := nI_ltI (by omega) (by omega)
      rw [ite_c cA _ _, ite_c cA _ _, ite_c cB _ _, ite_c cB _ _, ite_c (grown_ms c σ i hn) _ _, ite_c (grown_ms c σ i hn) _ _]
      have acc : (¬ share (c 0 0) i (c 2 p) (σ 8 0) ≤ bsh c σ p i ∧ ¬ c 0 2 - used c σ i < szk (c 3 p) ∧ (c 3 p = 3 → grown c σ i = true)) ↔ (mayP c σ p i = true ∧ (prtF c σ p i = 12 ∨ share (c 0 0) (prtF c σ p i) (c 2 p) (σ 8 0) < share (c 0 0) i (c 2 p) (σ 8 0))) := by
        unfold mayP opn bsh
        by_cases y : prtF c σ p i = 12
        · rw [if_pos y]
          by_cases k3 : c 3 p = 3
          · simp [y, k3]
            intros
            constructor <;> intro z <;> omega
          · simp [y, k3]
            intros
            constructor <;> intro z <;> omega
        · rw [if_neg y]
          have hm := prtF_may c σ p i y
          unfold mayP opn at hm
          simp at hm
          have hm1 := hm.1
          by_cases k3 : c 3 p = 3
          · simp [y, k3]
            constructor
            · rintro ⟨z1, z2, z3⟩; exact ⟨⟨by omega, by omega, z3⟩, by omega⟩
            · rintro ⟨⟨z1, z2, z3⟩, z4⟩; exact ⟨by omega, by omega, z3⟩
          · simp [y, k3]
            constructor
            · rintro ⟨z1, z2⟩; exact ⟨⟨by omega, by omega⟩, by omega⟩
            · rintro ⟨⟨z1, z2⟩, z4⟩; exact ⟨by omega, by omega⟩
      have nv : n1 i = nI i := by unfold n1; rw [if_neg (by omega)]
      have key : ∀ (α : Type) (a b : α), (if share (c 0 0) i (c 2 p) (σ 8 0) ≤ bsh c σ p i then a else if c 0 2 - used c σ i < szk (c 3 p) then a else if c 3 p = 3 then (if ¬ grown c σ i = true then a else b) else b) = if mayP c σ p i = true ∧ (prtF c σ p i = 12 ∨ share (c 0 0) (prtF c σ p i) (c 2 p) (σ 8 0) < share (c 0 0) i (c 2 p) (σ 8 0)) then b else a := by
        intro α a b
        by_cases y : mayP c σ p i = true ∧ (prtF c σ p i = 12 ∨ share (c 0 0) (prtF c σ p i) (c 2 p) (σ 8 0) < share (c 0 0) i (c 2 p) (σ 8 0))
        · obtain ⟨z1, z2, z3⟩ := acc.mpr y
          rw [if_neg z1, if_neg z2, if_pos y]
          by_cases k3 : c 3 p = 3
          · rw [if_pos k3, if_neg (fun w => w (z3 k3))]
          · rw [if_neg k3]
        · rw [if_neg y]
          by_cases z1 : share (c 0 0) i (c 2 p) (σ 8 0) ≤ bsh c σ p i
          · rw [if_pos z1]
          · rw [if_neg z1]
            by_cases z2 : c 0 2 - used c σ i < szk (c 3 p)
            · rw [if_pos z2]
            · rw [if_neg z2]
              have z3 : ¬ (c 3 p = 3 → grown c σ i = true) := fun w => y (acc.mp ⟨z1, z2, w⟩)
              have k3 : c 3 p = 3 := Classical.byContradiction fun w => z3 (fun u => absurd u w)
              rw [if_pos k3, if_pos (fun w => z3 (fun _ => w))]
      rw [key, key]
      have eA : (if mayP c σ p i = true ∧ (prtF c σ p i = 12 ∨ share (c 0 0) (prtF c σ p i) (c 2 p) (σ 8 0) < share (c 0 0) i (c 2 p) (σ 8 0)) then nI i else n1 (prtF c σ p i)) = n1 (prtF c σ p (i + 1)) := by
        rw [prtF_succ]
        split
        · exact nv.symm
        · rfl
      have eB : (if mayP c σ p i = true ∧ (prtF c σ p i = 12 ∨ share (c 0 0) (prtF c σ p i) (c 2 p) (σ 8 0) < share (c 0 0) i (c 2 p) (σ 8 0)) then nI (share (c 0 0) i (c 2 p) (σ 8 0)) else nI (bsh c σ p i)) = nI (bsh c σ p (i + 1)) := by
        unfold bsh
        rw [prtF_succ]
        by_cases y : mayP c σ p i = true ∧ (prtF c σ p i = 12 ∨ share (c 0 0) (prtF c σ p i) (c 2 p) (σ 8 0) < share (c 0 0) i (c 2 p) (σ 8 0))
        · rw [if_pos y, if_pos y, if_neg (by omega)]
        · rw [if_neg y, if_neg y]
      rw [eA, eB]
    · exact gX0_partFor_67 (c := c) (σ := σ) hk ⟨fun _ => ⟨by rw [hv], rfl⟩, fun y => absurd (nle_of (by rw [eL] at y; exact y)) (by omega)⟩
  refine td_entry rfl (Nat.le_of_ble_eq_true rfl) rfl (gX0_partFor_0 (c := c) hk ?_)
  rw [ep, ek, eO, e12]
  refine ⟨fun y => ⟨kq, by rw [e5]; exact hPl, h1, h1n, loop _ ?_⟩, fun y => ⟨kq, by rw [e5]; exact hPl, h1, h1n, fun z => loop _ ?_, fun z => ⟨?_, rfl⟩⟩⟩
  · have : σ 8 1 < 2 := lt_of (b := 2) y
    unfold prt
    rw [if_neg (by omega)]
  · unfold prt
    rw [if_neg (fun w => b2i_0.mp z w.1)]
  · have hl : laden (c 3 p) = true := Classical.byContradiction fun w => z (b2i_f w)
    have : 2 ≤ σ 8 1 := nlt_of (b := 2) y
    unfold prt
    rw [if_pos ⟨hl, this⟩]
    rfl
set_option maxRecDepth 20000 in
set_option maxHeartbeats 4000000 in
theorem gX0_changeSpeed_0 {G : td_G} {d : Nat} {Post : td_P} {k0 : Nat} {h : td_H} (hk0 : td_kd k0 = 0) (K : ((h k0 13) ≤ 0 → (td_kd (ix (h k0 5)) = 5 ∧ (Post none (if ((h k0 11) + (h (ix (h k0 5) + 1) 3)) < ((h (ix (h k0 5) + 1) 4) * ((h k0 12) + 1)) then if ((h (ix (h k0 5) + 1) 4) * (h k0 12)) ≤ ((h k0 11) + (h (ix (h k0 5) + 1) 3)) then h else (hu h k0 12 ((h k0 12) - 1)) else if (h (ix (h k0 5) + 1) 5) ≤ (h k0 12) then h else (hu h k0 12 ((h k0 12) + 1)) : td_H)))) ∧ (¬ (h k0 13) ≤ 0 → (Post none (hu (hu h k0 12 0) k0 13 (((hu h k0 12 0) k0 13) - 1))))) : td_J G d mX0_changeSpeed Post 0 [(0, .ref k0)] [] h := by
  refine td_aload_n 0 dX0_changeSpeed_0 rfl ?_
  refine gf_X0_64 rfl hk0 dX0_changeSpeed_1 ?_
  obtain ⟨Kt, Kf⟩ := K
  refine td_if_le (tgt := 23) dX0_changeSpeed_4 (by decide) (fun q4 => ?_) (fun q4 => ?_)
  · have K := Kt q4
    refine td_aload_n 0 dX0_changeSpeed_23 rfl ?_
    refine gf_X0_58 rfl hk0 dX0_changeSpeed_24 ?_
    refine td_aload_n 0 dX0_changeSpeed_27 rfl ?_
    refine gf_X0_38 rfl hk0 dX0_changeSpeed_28 ?_
    obtain ⟨e28, K⟩ := K
    refine gf_X0_111 rfl e28 dX0_changeSpeed_31 ?_
    refine td_iconst (v := 3) dX0_changeSpeed_34 (by decide) ?_
    refine td_ialdc (j := 3) (kd_5_0 e28) (by decide) (by unfold vp_in; decide) (by decide) dX0_changeSpeed_35 ?_
    refine td_iadd dX0_changeSpeed_36 ?_
    refine td_istore_n (lv2 := [(0, .ref k0), (1, .int ((h k0 11) + (h (ix (h k0 5) + 1) 3)))]) dX0_changeSpeed_37 (by decide) rfl ?_
    refine td_aload_n 0 dX0_changeSpeed_38 rfl ?_
    refine gf_X0_38 rfl hk0 dX0_changeSpeed_39 ?_
    refine gf_X0_111 rfl e28 dX0_changeSpeed_42 ?_
    refine td_iconst (v := 4) dX0_changeSpeed_45 (by decide) ?_
    refine td_ialdc (j := 4) (kd_5_0 e28) (by decide) (by unfold vp_in; decide) (by decide) dX0_changeSpeed_46 ?_
    refine td_istore_n (lv2 := [(0, .ref k0), (1, .int ((h k0 11) + (h (ix (h k0 5) + 1) 3))), (2, .int (h (ix (h k0 5) + 1) 4))]) dX0_changeSpeed_47 (by decide) rfl ?_
    refine td_iload_n 1 dX0_changeSpeed_48 rfl ?_
    refine td_iload_n 2 dX0_changeSpeed_49 rfl ?_
    refine td_aload_n 0 dX0_changeSpeed_50 rfl ?_
    refine gf_X0_61 rfl hk0 dX0_changeSpeed_51 ?_
    refine td_iconst (v := 1) dX0_changeSpeed_54 (by decide) ?_
    refine td_iadd dX0_changeSpeed_55 ?_
    refine td_imul dX0_changeSpeed_56 ?_
    have KJ109 : td_J G d mX0_changeSpeed Post 109 [(0, .ref k0), (1, .int ((h k0 11) + (h (ix (h k0 5) + 1) 3))), (2, .int (h (ix (h k0 5) + 1) 4))] [] (if ((h k0 11) + (h (ix (h k0 5) + 1) 3)) < ((h (ix (h k0 5) + 1) 4) * ((h k0 12) + 1)) then if ((h (ix (h k0 5) + 1) 4) * (h k0 12)) ≤ ((h k0 11) + (h (ix (h k0 5) + 1) 3)) then h else (hu h k0 12 ((h k0 12) - 1)) else if (h (ix (h k0 5) + 1) 5) ≤ (h k0 12) then h else (hu h k0 12 ((h k0 12) + 1)) : td_H) := by
      exact td_return rfl dX0_changeSpeed_109 K
    refine td_icmp_lt (tgt := 89) dX0_changeSpeed_57 (by decide) (fun q57 => ?_) (fun q57 => ?_)
    · skip
      refine td_iload_n 1 dX0_changeSpeed_89 rfl ?_
      refine td_iload_n 2 dX0_changeSpeed_90 rfl ?_
      refine td_aload_n 0 dX0_changeSpeed_91 rfl ?_
      refine gf_X0_61 rfl hk0 dX0_changeSpeed_92 ?_
      refine td_imul dX0_changeSpeed_95 ?_
      refine td_icmp_ge (tgt := 109) dX0_changeSpeed_96 (by decide) (fun q96 => ?_) (fun q96 => ?_)
      · skip
        exact td_to KJ109 rfl rfl (by rw [show (if ((h k0 11) + (h (ix (h k0 5) + 1) 3)) < ((h (ix (h k0 5) + 1) 4) * ((h k0 12) + 1)) then if ((h (ix (h k0 5) + 1) 4) * (h k0 12)) ≤ ((h k0 11) + (h (ix (h k0 5) + 1) 3)) then h else (hu h k0 12 ((h k0 12) - 1)) else if (h (ix (h k0 5) + 1) 5) ≤ (h k0 12) then h else (hu h k0 12 ((h k0 12) + 1)) : td_H) = _ from (if_pos q57).trans (if_pos q96)])
      · skip
        refine td_aload_n 0 dX0_changeSpeed_99 rfl ?_
        refine td_dup dX0_changeSpeed_100 rfl ?_
        refine gf_X0_61 rfl hk0 dX0_changeSpeed_101 ?_
        refine td_iconst (v := 1) dX0_changeSpeed_104 (by decide) ?_
        refine td_isub dX0_changeSpeed_105 ?_
        refine pf_X0_61 rfl hk0 dX0_changeSpeed_106 ?_
        exact td_to KJ109 rfl rfl (by rw [show (if ((h k0 11) + (h (ix (h k0 5) + 1) 3)) < ((h (ix (h k0 5) + 1) 4) * ((h k0 12) + 1)) then if ((h (ix (h k0 5) + 1) 4) * (h k0 12)) ≤ ((h k0 11) + (h (ix (h k0 5) + 1) 3)) then h else (hu h k0 12 ((h k0 12) - 1)) else if (h (ix (h k0 5) + 1) 5) ≤ (h k0 12) then h else (hu h k0 12 ((h k0 12) + 1)) : td_H) = _ from (if_pos q57).trans (if_neg q96)])
    · skip
      refine td_aload_n 0 dX0_changeSpeed_60 rfl ?_
      refine gf_X0_61 rfl hk0 dX0_changeSpeed_61 ?_
      refine td_aload_n 0 dX0_changeSpeed_64 rfl ?_
      refine gf_X0_38 rfl hk0 dX0_changeSpeed_65 ?_
      refine gf_X0_111 rfl e28 dX0_changeSpeed_68 ?_
      refine td_iconst (v := 5) dX0_changeSpeed_71 (by decide) ?_
      refine td_ialdc (j := 5) (kd_5_0 e28) (by decide) (by unfold vp_in; decide) (by decide) dX0_changeSpeed_72 ?_
      refine td_icmp_ge (tgt := 109) dX0_changeSpeed_73 (by decide) (fun q73 => ?_) (fun q73 => ?_)
      · skip
        exact td_to KJ109 rfl rfl (by rw [show (if ((h k0 11) + (h (ix (h k0 5) + 1) 3)) < ((h (ix (h k0 5) + 1) 4) * ((h k0 12) + 1)) then if ((h (ix (h k0 5) + 1) 4) * (h k0 12)) ≤ ((h k0 11) + (h (ix (h k0 5) + 1) 3)) then h else (hu h k0 12 ((h k0 12) - 1)) else if (h (ix (h k0 5) + 1) 5) ≤ (h k0 12) then h else (hu h k0 12 ((h k0 12) + 1)) : td_H) = _ from (if_neg q57).trans (if_pos q73)])
      · skip
        refine td_aload_n 0 dX0_changeSpeed_76 rfl ?_
        refine td_dup dX0_changeSpeed_77 rfl ?_
        refine gf_X0_61 rfl hk0 dX0_changeSpeed_78 ?_
        refine td_iconst (v := 1) dX0_changeSpeed_81 (by decide) ?_
        refine td_iadd dX0_changeSpeed_82 ?_
        refine pf_X0_61 rfl hk0 dX0_changeSpeed_83 ?_
        refine td_goto (tgt := 109) dX0_changeSpeed_86 (by decide) ?_
        exact td_to KJ109 rfl rfl (by rw [show (if ((h k0 11) + (h (ix (h k0 5) + 1) 3)) < ((h (ix (h k0 5) + 1) 4) * ((h k0 12) + 1)) then if ((h (ix (h k0 5) + 1) 4) * (h k0 12)) ≤ ((h k0 11) + (h (ix (h k0 5) + 1) 3)) then h else (hu h k0 12 ((h k0 12) - 1)) else if (h (ix (h k0 5) + 1) 5) ≤ (h k0 12) then h else (hu h k0 12 ((h k0 12) + 1)) : td_H) = _ from (if_neg q57).trans (if_neg q73)])
  · have K := Kf q4
    refine td_aload_n 0 dX0_changeSpeed_7 rfl ?_
    refine td_iconst (v := 0) dX0_changeSpeed_8 (by decide) ?_
    refine pf_X0_61 rfl hk0 dX0_changeSpeed_9 ?_
    refine td_aload_n 0 dX0_changeSpeed_12 rfl ?_
    refine td_dup dX0_changeSpeed_13 rfl ?_
    refine gf_X0_64 rfl hk0 dX0_changeSpeed_14 ?_
    refine td_iconst (v := 1) dX0_changeSpeed_17 (by decide) ?_
    refine td_isub dX0_changeSpeed_18 ?_
    refine pf_X0_64 rfl hk0 dX0_changeSpeed_19 ?_
    exact td_return rfl dX0_changeSpeed_22 K
theorem c_C_speed {G : td_G} {d : Nat} {h : td_H} {k q : Nat} {c σ : nH} {Q : Nat → Nat} (hQ : dQ c Q k q h) (hV : dV c σ k h) (ok : sOK c σ) : td_C G d mX0_changeSpeed [.ref k] h (fun r h' => r = none ∧ FrD k h h' ∧ dV c (sSpeed c σ) k h') := by
  have hk := hQ.1
  have hPl := hQ.2.2.2.2.1
  have hwf := hPl.1
  have hn := hwf.n
  have hk107 := td_kd_lt hk (by decide)
  have e5 : ix (h k 5) = q := by rw [hQ.2.2.2.1]; exact ixn (by have := hQ.2.2.1; omega)
  obtain ⟨a1, a2, a3, a4, a5⟩ := hV.1
  have hsp := ok.2.1
  have hst := ok.2.2.1
  have upd1 : ∀ v, dV c (nu σ 8 1 v) k (hu h k 12 (nI v)) := fun v => by
    refine hV.sc (fun a b ha => by rw [nu_app, if_neg (fun z => ha z.1)]) (fun a b n => by rw [hu_app, if_neg (by omega)]) ?_ ?_ ?_ ?_ ?_ ?_
    · rw [hu_app, if_neg (by omega), nu_app, if_neg (by omega)]; exact hV.2.2.1.1
    · rw [hu_app, if_pos ⟨rfl, rfl⟩, nu_app, if_pos ⟨rfl, rfl⟩]
    · rw [hu_app, if_neg (by omega), nu_app, if_neg (by omega)]; exact a4
    · rw [hu_app, if_neg (by omega), nu_app, if_neg (by omega)]; exact hV.2.2.1.2.2.2
    · rw [hu_app, if_neg (by omega), nu_app, if_neg (by omega)]; exact hV.2.2.1.2.2.1
    · rw [hu_app, if_neg (by omega), nu_app, if_neg (by omega)]; exact a5
  have fr1 : ∀ v, FrD k h (hu h k 12 v) := fun v => (FrD.rf k h).put (by unfold dynP; omega) v
  refine td_entry rfl (Nat.le_of_ble_eq_true rfl) rfl (gX0_changeSpeed_0 hk ⟨fun y => ⟨by rw [e5]; exact hQ.2.1, rfl, ?_⟩, fun y => ⟨rfl, ?_, ?_⟩⟩)
  · have q0 : σ 8 2 = 0 := by
      have := le_of (b := 0) (by rw [a4] at y; exact y)
      omega
    have b3 : h (q + 1) 3 = nI (c 0 3) := hPl.2.1 3 (by decide)
    have b4 : h (q + 1) 4 = nI (c 0 4) := hPl.2.1 4 (by decide)
    have b5 : h (q + 1) 5 = nI (c 0 5) := hPl.2.1 5 (by decide)
    have hd := hwf.2.2.2.2.1
    have hgv := hwf.2.2.2.2.2.1
    have hm := hwf.2.2.2.1
    have hps := push_le c σ hn
    have hq1 : c 0 4 * (σ 8 1 + 1) ≤ 36 := Nat.le_trans (Nat.mul_le_mul hd.2 (by omega : σ 8 1 + 1 ≤ 4)) (by decide)
    have hq2 : c 0 4 * σ 8 1 ≤ 36 := Nat.le_trans (Nat.mul_le_mul hd.2 (by omega : σ 8 1 ≤ 4)) (by decide)
    refine byX (fun X => FrD k h X ∧ dV c (sSpeed c σ) k X) (if c 0 3 + pushS c σ < c 0 4 * (σ 8 1 + 1) then (if c 0 4 * σ 8 1 ≤ c 0 3 + pushS c σ then h else hu h k 12 (nI (σ 8 1) - 1)) else if c 0 5 ≤ σ 8 1 then h else hu h k 12 (nI (σ 8 1 + 1))) ?_ ?_
    · rw [e5, a2, a3, b3, b4, b5, nI_1, nI_add, pk_mul, pk_mul, Nat.add_comm (pushS c σ), ite_c (nI_ltI (a := c 0 3 + pushS c σ) (b := c 0 4 * (σ 8 1 + 1)) (by omega) (by omega)) _ _, ite_c (nI_leI (a := c 0 4 * σ 8 1) (b := c 0 3 + pushS c σ) (by omega) (by omega)) _ _, ite_c (nI_leI (a := c 0 5) (b := σ 8 1) (by omega) (by omega)) _ _]
    · unfold sSpeed
      rw [if_neg (by omega : ¬ 0 < σ 8 2)]
      by_cases y1 : c 0 3 + pushS c σ < c 0 4 * (σ 8 1 + 1)
      · rw [if_pos y1, if_neg (fun z : c 0 4 * (σ 8 1 + 1) ≤ c 0 3 + pushS c σ ∧ σ 8 1 < c 0 5 => by omega)]
        by_cases y2 : c 0 4 * σ 8 1 ≤ c 0 3 + pushS c σ
        · rw [if_pos y2, if_neg (fun z : c 0 3 + pushS c σ < c 0 4 * σ 8 1 => by omega)]
          exact ⟨FrD.rf k h, hV⟩
        · rw [if_neg y2, if_pos (show c 0 3 + pushS c σ < c 0 4 * σ 8 1 by omega)]
          have y3 : 1 ≤ σ 8 1 := by
            rcases Nat.eq_zero_or_pos (σ 8 1) with z | z
            · rw [z, Nat.mul_zero] at y2; omega
            · exact z
          rw [show (1 : Int32) = nI 1 from rfl, pk_sub y3]
          exact ⟨fr1 _, upd1 _⟩
      · rw [if_neg y1]
        by_cases y2 : c 0 5 ≤ σ 8 1
        · have y4 : c 0 4 * σ 8 1 ≤ c 0 3 + pushS c σ := by
            have := Nat.mul_le_mul_left (c 0 4) (by omega : σ 8 1 ≤ σ 8 1 + 1)
            omega
          rw [if_pos y2, if_neg (fun z : c 0 4 * (σ 8 1 + 1) ≤ c 0 3 + pushS c σ ∧ σ 8 1 < c 0 5 => by omega), if_neg (fun z : c 0 3 + pushS c σ < c 0 4 * σ 8 1 => by omega)]
          exact ⟨FrD.rf k h, hV⟩
        · rw [if_neg y2, if_pos (show c 0 4 * (σ 8 1 + 1) ≤ c 0 3 + pushS c σ ∧ σ 8 1 < c 0 5 from ⟨by omega, by omega⟩)]
          exact ⟨fr1 _, upd1 _⟩
  · exact ((FrD.rf k h).put (by unfold dynP; omega) _).put (by unfold dynP; omega) _
  · have q0 : 0 < σ 8 2 := nle_of (b := 0) (by rw [a4] at y; exact y)
    unfold sSpeed
    rw [if_pos q0]
    have e : hu h k 12 0 k 13 = nI (σ 8 2) := by rw [hu_app, if_neg (by omega)]; exact a4
    rw [e, show (1 : Int32) = nI 1 from rfl, pk_sub q0]
    have hV2 := upd1 0
    refine hV2.sc (fun a b ha => by rw [nu_app, if_neg (fun z => ha z.1)]) (fun a b n => by rw [show (0 : Int32) = nI 0 from rfl, hu_app, if_neg (by omega)]) ?_ ?_ ?_ ?_ ?_ ?_
    · rw [hu_app, if_neg (by omega), nu_app, if_neg (by omega)]; exact hV2.2.2.1.1
    · rw [hu_app, if_neg (by omega), nu_app, if_neg (by omega)]; exact hV2.1.2.2.1
    · rw [hu_app, if_pos ⟨rfl, rfl⟩, nu_app, if_pos ⟨rfl, rfl⟩]
    · rw [hu_app, if_neg (by omega), nu_app, if_neg (by omega)]; exact hV2.2.2.1.2.2.2
    · rw [hu_app, if_neg (by omega), nu_app, if_neg (by omega)]; exact hV2.2.2.1.2.2.1
    · rw [hu_app, if_neg (by omega), nu_app, if_neg (by omega)]; exact hV2.1.2.2.2.2
