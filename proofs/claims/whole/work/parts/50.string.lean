/-! the one String: "wbtchd" is reference 2000, its bytes 2001 -/
section TDS
variable {G : td_G} {d : Nat} {M : td_M} {Post : td_P} {pc : Nat} {lv lv2 : List (Nat × Value)} {st : List Value} {h : td_H}
def ltr : List Int32 := [119, 98, 116, 99, 104, 100]
theorem td_ldcS (hM : M.1.cls = RX7) (hd : decode M.2.1 pc = .ok (.ldc 64, 2)) (kk : td_J G d M Post (pc + 2) lv (.ref 2000 :: st) h) : td_J G d M Post pc lv st h := by
  intro p e s m args below meth c H locs ls X
  have kk := kk p e s m args below meth c H locs ls X
  obtain ⟨a1, a2, a3, a4, a5, a6, a7, a8, a9, a10, a11, a12, a13⟩ := X
  exact va_ldcS a1 a2 a5 (by rw [hM]; exact a9.2.2.2) hd kk
theorem td_strV (hM : M.1.cls = RJ0) (hd : decode M.2.1 pc = .ok (.getfield 9, 3)) (kk : td_J G d M Post (pc + 3) lv (.ref 2001 :: st) h) : td_J G d M Post pc lv (.ref 2000 :: st) h := by
  intro p e s m args below meth c H locs ls X
  have kk := kk p e s m args below meth c H locs ls X
  obtain ⟨a1, a2, a3, a4, a5, a6, a7, a8, a9, a10, a11, a12, a13⟩ := X
  exact vk_getf a1 a2 (a9.2.2.1.1 0 (by decide)).2.2.1 a12 a5 (a6 _ (by rw [hM]; exact td_in 1443 (by decide +kernel) rfl)) (fun _ z => z) hd kk
theorem td_strC (hM : M.1.cls = RJ0) (hd : decode M.2.1 pc = .ok (.getfield 15, 3)) (kk : td_J G d M Post (pc + 3) lv (.int 0 :: st) h) : td_J G d M Post pc lv (.ref 2000 :: st) h := by
  intro p e s m args below meth c H locs ls X
  have kk := kk p e s m args below meth c H locs ls X
  obtain ⟨a1, a2, a3, a4, a5, a6, a7, a8, a9, a10, a11, a12, a13⟩ := X
  exact vk_getf a1 a2 (a9.2.2.1.1 0 (by decide)).2.1 a12 a5 (a6 _ (by rw [hM]; exact td_in 1442 (by decide +kernel) rfl)) (fun _ z => z) hd kk
theorem td_gsC (hM : M.1.cls = RJ0) (hd : decode M.2.1 pc = .ok (.getstatic 38, 3)) (kk : td_J G d M Post (pc + 3) lv (.int 1 :: st) h) : td_J G d M Post pc lv st h := by
  intro p e s m args below meth c H locs ls X
  have kk := kk p e s m args below meth c H locs ls X
  obtain ⟨a1, a2, a3, a4, a5, a6, a7, a8, a9, a10, a11, a12, a13⟩ := X
  exact va_gets a1 a2 a9.2.1 a12 a5 (a6 _ (by rw [hM]; exact td_in 642 (by decide +kernel) rfl)) (fun _ z => z) hd kk
theorem td_blen (hd : decode M.2.1 pc = .ok (.arraylength, 1)) (kk : td_J G d M Post (pc + 1) lv (.int 6 :: st) h) : td_J G d M Post pc lv (.ref 2001 :: st) h := by
  intro p e s m args below meth c H locs ls X
  have kk := kk p e s m args below meth c H locs ls X
  obtain ⟨a1, a2, a3, a4, a5, a6, a7, a8, a9, a10, a11, a12, a13⟩ := X
  exact va_tlen a1 a2 (a9.2.2.1.1 0 (by decide)).2.2.2 a12 (v := 6) rfl hd kk
theorem td_bald {i : Int32} (hin : vp_in i 6) (hd : decode M.2.1 pc = .ok (.baload, 1)) (kk : td_J G d M Post (pc + 1) lv (.int (ltr.getD (ix i) 0) :: st) h) : td_J G d M Post pc lv (.int i :: .ref 2001 :: st) h := by
  intro p e s m args below meth c H locs ls X
  have kk := kk p e s m args below meth c H locs ls X
  obtain ⟨a1, a2, a3, a4, a5, a6, a7, a8, a9, a10, a11, a12, a13⟩ := X
  exact va_tb a1 a2 (a9.2.2.1.1 0 (by decide)).2.2.2 a12 hin rfl hd kk
theorem td_breturn {x : Int32} (hret : M.2.2.2 = some .byte) (hn : narrow .byte (.int x) = .int x) (hd : decode M.2.1 pc = .ok (.ireturn, 1)) (hp : Post (some (.int x)) h) : td_J G d M Post pc lv [.int x] h := by
  intro p e s m args below meth c H locs ls X
  exact W.zret X.1 X.2.1 (X.2.2.1.trans hret) hn (td_end (r := some (.int x)) X hp) (fun q hq => X.2.2.2.2.2.2.2.2.2.2.2.1.2.2 q hq) hd X.2.2.2.2.2.2.1
theorem td_callK {Mc : td_M} {index : Nat} {as : List Value} {P1 : td_P} (hC : Mc.1.cls = RJ0) (w1 : Cond.methodLink M.1.cls index Mc.1 ∈ td_all) (w2 : Cond.instanceMethod Mc.1 ∈ td_all) (w3 : Cond.selects RJ0 Mc.1 Mc.1 ∈ td_all) (w4 : Cond.initialized RJ0 ∈ td_all) (w5 : Cond.code Mc.1 Mc.2.1 Mc.2.2.1 Mc.2.2.2 ∈ td_all)
    (hno : td_no Mc.1 as.length) (hm : Mc.2.2.1 ≤ 21) (hd : decode M.2.1 pc = .ok (.invokevirtual index, 3)) (hst : (st.map fun v => v.category).sum ≤ 8) (ct : td_C G d Mc (.ref 2000 :: as) h P1) (kk : ∀ r h1, P1 r h1 → td_J G (d + 1) M Post (pc + 3) lv (r.toList ++ st) h1) : td_J G (d + 1) M Post pc lv (as.reverse ++ .ref 2000 :: st) h := by
  intro p e s m args below meth c H locs ls X
  have hr : ∃ cell : Cell, H[td_ad G 2000]? = some cell ∧ cell.vm.isStatics = false ∧ s.vm.findClass RJ0 = some cell.cls := vk_recv (adK := fun _ => td_ad G 2000) (i := 0) X.2.2.2.2.2.2.2.2.1.2.2.1 (by decide) X.2.2.2.2.2.2.2.2.2.2.2.1
  rw [← hC] at hr w3 w4
  refine td_cont X (va_runV (As := as.map (td_cv G)) (b := td_ad G 2000) ⟨X.1, X.2.1, X.2.2.2.1, X.2.2.2.2.1, X.2.2.2.2.2.1⟩ ct (cwV as.length X.2.2.2.2.2.1 (td_GI ?_) rfl rfl rfl ⟨rfl, hno⟩ (td_rmok hm)) ⟨td_blind _, hr, td_pre X (.ref 2000 :: as)⟩ rfl (List.length_map _) X.lh.1 (td_stk as st 2000) (lv_room (by rw [td_cat]; exact hst)) hd ⟨Nat.le_refl _, Nat.le_refl _⟩) kk
  intro w hw
  unfold wsV at hw
  rcases List.mem_append.mp hw with z | z
  · simp only [List.mem_cons, List.not_mem_nil, or_false] at z
    rcases z with z | z | z | z <;> rw [z] <;> assumption
  · exact td_wlin w5 w z
theorem td_lsw {dflt : Int} {ps : Array (Int × Int)} {len : Nat} {x : Int32} {off : Int} {tgt : Nat} (hd : decode M.2.1 pc = .ok (.lookupswitch dflt ps, len)) (hp : (ps.toList.zip (ps.toList.drop 1)).all (fun (a, next) => a.1 < next.1) = true) (ho : Op.lookupswitch.offset ps.toList dflt x.toInt = off) (ht : (pc : Int) + off = (tgt : Int)) (k : td_J G d M Post tgt lv st h) : td_J G d M Post pc lv (.int x :: st) h := fun p e s m args below meth c H locs ls X => lv_lookup X.1 X.2.1 hd hp ho ht (k p e s m args below meth c H locs ls X)
theorem td_lso {x : Int32} (q0 : ¬ x = 0) (q1 : ¬ x = 1) : Op.lookupswitch.offset (#[(0, 27), (1, 35)] : Array (Int × Int)).toList 43 x.toInt = 43 := by
  show Op.lookupswitch.offset [(0, 27), (1, 35)] 43 x.toInt = 43
  rw [Op.lookupswitch.offset_cons, if_neg (fun z => q0 ((fa_eq x 0).mpr z.symm)), Op.lookupswitch.offset_cons, if_neg (fun z => q1 ((fa_eq x 1).mpr z.symm))]
  rfl
end TDS
abbrev mJ0_length : td_M := (yJ0_length_8abf5, cJ0_length_8abf5, 1, some .int)
abbrev mJ0_coder : td_M := (yJ0_coder_7d493, cJ0_coder_7d493, 1, some .byte)
abbrev mJ1_indexOf : td_M := (yJ1_indexOf_4cfef, cJ1_indexOf_4cfef, 4, some .int)
theorem no_length : td_no yJ0_length_8abf5 0 := by unfold td_no; decide +kernel
theorem no_coder : td_no yJ0_coder_7d493 0 := by unfold td_no; decide +kernel
theorem no_J1_indexOf : td_no yJ1_indexOf_4cfef 4 := by unfold td_no; decide +kernel
theorem c_coder {G : td_G} {d : Nat} {h : td_H} : td_C G d mJ0_coder [.ref 2000] h (eR 0 h) := by
  refine td_entry rfl (Nat.le_of_ble_eq_true rfl) rfl ?_
  refine td_gsC rfl dJ0_coder_7d493_0 ?_
  refine td_if_eq (tgt := 13) dJ0_coder_7d493_3 (by decide) (fun q => absurd q (by decide)) (fun _ => ?_)
  refine td_aload_n 0 dJ0_coder_7d493_6 rfl ?_
  refine td_strC rfl dJ0_coder_7d493_7 ?_
  refine td_goto (tgt := 14) dJ0_coder_7d493_10 (by decide) ?_
  exact td_breturn rfl rfl dJ0_coder_7d493_14 ⟨rfl, rfl⟩
theorem c_isLatin1 {G : td_G} {d : Nat} {h : td_H} : td_C G d mJ0_isLatin1_aae02 [.ref 2000] h (eR 1 h) := by
  refine td_entry rfl (Nat.le_of_ble_eq_true rfl) rfl ?_
  refine td_gsC rfl dJ0_isLatin1_aae02_0 ?_
  refine td_if_eq (tgt := 17) dJ0_isLatin1_aae02_3 (by decide) (fun q => absurd q (by decide)) (fun _ => ?_)
  refine td_aload_n 0 dJ0_isLatin1_aae02_6 rfl ?_
  refine td_strC rfl dJ0_isLatin1_aae02_7 ?_
  refine td_if_ne (tgt := 17) dJ0_isLatin1_aae02_10 (by decide) (fun q => absurd rfl q) (fun _ => ?_)
  refine td_iconst dJ0_isLatin1_aae02_13 rfl ?_
  refine td_goto (tgt := 18) dJ0_isLatin1_aae02_14 (by decide) ?_
  exact td_zreturn rfl rfl dJ0_isLatin1_aae02_18 ⟨rfl, rfl⟩
theorem c_length {G : td_G} {d : Nat} {h : td_H} : td_C G (d + 1) mJ0_length [.ref 2000] h (eR 6 h) := by
  refine td_entry rfl (Nat.le_of_ble_eq_true rfl) rfl ?_
  refine td_aload_n 0 dJ0_length_8abf5_0 rfl ?_
  refine td_strV rfl dJ0_length_8abf5_1 ?_
  refine td_blen dJ0_length_8abf5_4 ?_
  refine td_aload_n 0 dJ0_length_8abf5_5 rfl ?_
  refine td_callK (Mc := mJ0_coder) (as := []) rfl (td_in 648 (by decide +kernel) rfl) (td_in 649 (by decide +kernel) rfl) (td_in 650 (by decide +kernel) rfl) (td_in 119 (by decide +kernel) rfl) (td_in 651 (by decide +kernel) rfl) no_coder (by decide) dJ0_length_8abf5_6 (Nat.le_of_ble_eq_true rfl) c_coder (eR_k ?_)
  refine td_eqs (st2 := [.int 0, .int 6]) rfl ?_
  refine td_ishr dJ0_length_8abf5_9 ?_
  exact td_ireturn rfl dJ0_length_8abf5_10 ⟨rfl, rfl⟩
theorem c_canEncode {G : td_G} {d : Nat} {h : td_H} {b : Nat} (hb : b < 256) : td_C G d mJ1_canEncode_9a6ad [.int (nI b)] h (eR 1 h) := by
  refine td_entry rfl (Nat.le_of_ble_eq_true rfl) rfl ?_
  refine td_iload_n 0 dJ1_canEncode_9a6ad_0 rfl ?_
  refine td_if_lt (tgt := 15) dJ1_canEncode_9a6ad_1 (by decide) (fun q => absurd q (nI_pos (by omega))) (fun _ => ?_)
  refine td_iload_n 0 dJ1_canEncode_9a6ad_4 rfl ?_
  refine td_sipush (v := 255) dJ1_canEncode_9a6ad_5 rfl ?_
  refine td_icmp_gt (tgt := 15) dJ1_canEncode_9a6ad_8 (by decide) (fun q => absurd (lt_of (a := 255) q) (by omega)) (fun _ => ?_)
  refine td_iconst dJ1_canEncode_9a6ad_11 rfl ?_
  refine td_goto (tgt := 16) dJ1_canEncode_9a6ad_12 (by decide) ?_
  exact td_zreturn rfl rfl dJ1_canEncode_9a6ad_16 ⟨rfl, rfl⟩
def lfI (b : Nat) : Nat → Nat → Int32
  | 0, _ => -1
  | f + 1, k => if ltr.getD k 0 = nI b then nI k else lfI b f (k + 1)
theorem c_ixChar {G : td_G} {d : Nat} {h : td_H} {b : Nat} (hb : b < 128) : td_C G d mJ1_indexOfChar_4cfef [.ref 2001, .int (nI b), .int 0, .int 6] h (eR (lfI b 6 0) h) := by
  refine td_entry rfl (Nat.le_of_ble_eq_true rfl) rfl ?_
  refine td_iload_n 1 dJ1_indexOfChar_4cfef_0 rfl ?_
  refine td_i2b dJ1_indexOfChar_4cfef_1 ?_
  rw [fa_byte_small hb]
  refine td_istore (lv2 := [(0, .ref 2001), (1, .int (nI b)), (2, .int 0), (3, .int 6), (4, .int (nI b))]) dJ1_indexOfChar_4cfef_2 (by decide) rfl ?_
  refine td_iload_n 2 dJ1_indexOfChar_4cfef_4 rfl ?_
  refine td_istore (lv2 := [(0, .ref 2001), (1, .int (nI b)), (2, .int 0), (3, .int 6), (4, .int (nI b)), (5, .int 0)]) dJ1_indexOfChar_4cfef_5 (by decide) rfl ?_
  have loop : ∀ f k, f + k = 6 → td_J G d mJ1_indexOfChar_4cfef (eR (lfI b f k) h) 7 [(0, .ref 2001), (1, .int (nI b)), (2, .int 0), (3, .int 6), (4, .int (nI b)), (5, .int (nI k))] [] h := by
    intro f
    induction f with
    | zero =>
      intro k hk
      have : k = 6 := by omega
      subst this
      refine td_iload 5 dJ1_indexOfChar_4cfef_7 rfl ?_
      refine td_iload_n 3 dJ1_indexOfChar_4cfef_9 rfl ?_
      refine td_icmp_ge (tgt := 31) dJ1_indexOfChar_4cfef_10 (by decide) (fun _ => ?_) (fun q => absurd (by decide) q)
      refine td_iconst dJ1_indexOfChar_4cfef_31 rfl ?_
      exact td_ireturn rfl dJ1_indexOfChar_4cfef_32 ⟨rfl, rfl⟩
    | succ f ih =>
      intro k hk
      refine td_iload 5 dJ1_indexOfChar_4cfef_7 rfl ?_
      refine td_iload_n 3 dJ1_indexOfChar_4cfef_9 rfl ?_
      refine td_icmp_ge (tgt := 31) dJ1_indexOfChar_4cfef_10 (by decide) (fun q => absurd (le_of (a := 6) q) (by omega)) (fun _ => ?_)
      refine td_aload_n 0 dJ1_indexOfChar_4cfef_13 rfl ?_
      refine td_iload 5 dJ1_indexOfChar_4cfef_14 rfl ?_
      refine td_bald (vp_in_nI (by omega) (by decide)) dJ1_indexOfChar_4cfef_16 ?_
      rw [ixn (by omega)]
      refine td_iload 4 dJ1_indexOfChar_4cfef_17 rfl ?_
      refine td_icmp_ne (tgt := 25) dJ1_indexOfChar_4cfef_19 (by decide) (fun q => ?_) (fun q => ?_)
      · refine td_iinc (v := nI k + 1) (lv2 := [(0, .ref 2001), (1, .int (nI b)), (2, .int 0), (3, .int 6), (4, .int (nI b)), (5, .int (nI k + 1))]) 5 dJ1_indexOfChar_4cfef_25 rfl rfl (by decide) rfl ?_
        refine td_goto (tgt := 7) dJ1_indexOfChar_4cfef_28 (by decide) ?_
        rw [nI_1]
        refine (ih (k + 1) (by omega)).weak (fun r h' z => ?_)
        have e : lfI b (f + 1) k = lfI b f (k + 1) := by unfold lfI; rw [if_neg q]; cases f <;> rfl
        rw [e]
        exact z
      · refine td_iload 5 dJ1_indexOfChar_4cfef_22 rfl ?_
        refine td_ireturn rfl dJ1_indexOfChar_4cfef_24 ⟨?_, rfl⟩
        have e : lfI b (f + 1) k = nI k := by unfold lfI; rw [if_pos q]
        rw [e]
  exact loop 6 0 rfl
theorem cm_J1_92 {G : td_G} {d : Nat} {M : td_M} {Post : td_P} {pc : Nat} {lv : List (Nat × Value)} {st : List Value} {h : td_H} {x y : Int32} (hM : M.1.cls = RJ1) (hd : decode M.2.1 pc = .ok (.invokestatic 92, 3)) (hst : (st.map fun v => v.category).sum ≤ 8) (kk : td_J G (d + 1) M Post (pc + 3) lv (.int (if x < y then y else x) :: st) h) : td_J G (d + 1) M Post pc lv (.int y :: .int x :: st) h := by
  intro p e s m args below meth c H locs ls X
  have kk := kk p e s m args below meth c H locs ls X
  have hl := X.lh.1
  obtain ⟨a1, a2, a3, a4, a5, a6, a7, a8, a9, a10, a11, a12, a13⟩ := X
  refine va_mmax a1 a2 (a4.trans hl.symm) (own := M.1.cls) (index := 92) a5 (a6 _ (by rw [hM]; exact td_in 658 (by decide +kernel) rfl)) (a6 _ (td_in 659 (by decide +kernel) rfl)) (a6 _ (td_in 118 (by decide +kernel) rfl)) (a6 _ (td_in 660 (by decide +kernel) rfl)) (by show 1 ≤ d + 1; omega) ?_ (Nat.le_refl _) (Nat.le_refl _) hd kk
  show _ ≤ 40 * (d + 1)
  have := td_cat (G := G) st
  rw [this]
  omega
theorem cm_J1_38 {G : td_G} {d : Nat} {M : td_M} {Post : td_P} {pc : Nat} {lv : List (Nat × Value)} {st : List Value} {h : td_H} {x y : Int32} (hM : M.1.cls = RJ1) (hd : decode M.2.1 pc = .ok (.invokestatic 38, 3)) (hst : (st.map fun v => v.category).sum ≤ 8) (kk : td_J G (d + 1) M Post (pc + 3) lv (.int (if y < x then y else x) :: st) h) : td_J G (d + 1) M Post pc lv (.int y :: .int x :: st) h := by
  intro p e s m args below meth c H locs ls X
  have kk := kk p e s m args below meth c H locs ls X
  have hl := X.lh.1
  obtain ⟨a1, a2, a3, a4, a5, a6, a7, a8, a9, a10, a11, a12, a13⟩ := X
  refine va_mmin a1 a2 (a4.trans hl.symm) (own := M.1.cls) (index := 38) a5 (a6 _ (by rw [hM]; exact td_in 661 (by decide +kernel) rfl)) (a6 _ (td_in 615 (by decide +kernel) rfl)) (a6 _ (td_in 118 (by decide +kernel) rfl)) (a6 _ (td_in 616 (by decide +kernel) rfl)) (by show 1 ≤ d + 1; omega) ?_ (Nat.le_refl _) (Nat.le_refl _) hd kk
  show _ ≤ 40 * (d + 1)
  have := td_cat (G := G) st
  rw [this]
  omega
theorem c_L1_indexOf {G : td_G} {d : Nat} {h : td_H} {b : Nat} (hb : b < 128) : td_C G (d + 1) mJ1_indexOf [.ref 2001, .int (nI b), .int 0, .int 6] h (eR (lfI b 6 0) h) := by
  refine td_entry rfl (Nat.le_of_ble_eq_true rfl) rfl ?_
  refine td_iload_n 1 dJ1_indexOf_4cfef_0 rfl ?_
  refine td_callS (Mc := mJ1_canEncode_9a6ad) (as := [.int (nI b)]) (td_in 655 (by decide +kernel) rfl) (td_in 656 (by decide +kernel) rfl) (td_in 120 (by decide +kernel) rfl) (td_in 657 (by decide +kernel) rfl) no_J1_canEncode_9a6ad (by decide) dJ1_indexOf_4cfef_1 (Nat.le_of_ble_eq_true rfl) (c_canEncode (by omega)) (eR_k ?_)
  refine td_eqs (st2 := [.int 1]) rfl ?_
  refine td_if_ne (tgt := 9) dJ1_indexOf_4cfef_4 (by decide) (fun _ => ?_) (fun q => absurd q (by decide))
  refine td_iload_n 2 dJ1_indexOf_4cfef_9 rfl ?_
  refine td_iconst dJ1_indexOf_4cfef_10 rfl ?_
  refine cm_J1_92 rfl dJ1_indexOf_4cfef_11 (Nat.le_of_ble_eq_true rfl) ?_
  refine td_eqs (st2 := [.int 0]) rfl ?_
  refine td_istore_n (lv2 := [(0, .ref 2001), (1, .int (nI b)), (2, .int 0), (3, .int 6)]) dJ1_indexOf_4cfef_14 (by decide) rfl ?_
  refine td_iload_n 3 dJ1_indexOf_4cfef_15 rfl ?_
  refine td_aload_n 0 dJ1_indexOf_4cfef_16 rfl ?_
  refine td_blen dJ1_indexOf_4cfef_17 ?_
  refine cm_J1_38 rfl dJ1_indexOf_4cfef_18 (Nat.le_of_ble_eq_true rfl) ?_
  refine td_eqs (st2 := [.int 6]) rfl ?_
  refine td_istore_n (lv2 := [(0, .ref 2001), (1, .int (nI b)), (2, .int 0), (3, .int 6)]) dJ1_indexOf_4cfef_21 (by decide) rfl ?_
  refine td_iload_n 2 dJ1_indexOf_4cfef_22 rfl ?_
  refine td_iload_n 3 dJ1_indexOf_4cfef_23 rfl ?_
  refine td_icmp_lt (tgt := 29) dJ1_indexOf_4cfef_24 (by decide) (fun _ => ?_) (fun q => absurd (by decide) q)
  refine td_aload_n 0 dJ1_indexOf_4cfef_29 rfl ?_
  refine td_iload_n 1 dJ1_indexOf_4cfef_30 rfl ?_
  refine td_iload_n 2 dJ1_indexOf_4cfef_31 rfl ?_
  refine td_iload_n 3 dJ1_indexOf_4cfef_32 rfl ?_
  refine td_callS (Mc := mJ1_indexOfChar_4cfef) (as := [.ref 2001, .int (nI b), .int 0, .int 6]) (td_in 662 (by decide +kernel) rfl) (td_in 663 (by decide +kernel) rfl) (td_in 120 (by decide +kernel) rfl) (td_in 664 (by decide +kernel) rfl) no_J1_indexOfChar_4cfef (by decide) dJ1_indexOf_4cfef_33 (Nat.le_of_ble_eq_true rfl) (c_ixChar hb) (eR_k ?_)
  exact td_ireturn rfl dJ1_indexOf_4cfef_36 ⟨rfl, rfl⟩
theorem c_indexOf2 {G : td_G} {d : Nat} {h : td_H} {b : Nat} (hb : b < 128) : td_C G (d + 2) mJ0_indexOf_7cf53 [.ref 2000, .int (nI b), .int 0] h (eR (lfI b 6 0) h) := by
  refine td_entry rfl (Nat.le_of_ble_eq_true rfl) rfl ?_
  refine td_aload_n 0 dJ0_indexOf_7cf53_0 rfl ?_
  refine td_callK (Mc := mJ0_isLatin1_aae02) (as := []) rfl (td_in 638 (by decide +kernel) rfl) (td_in 639 (by decide +kernel) rfl) (td_in 640 (by decide +kernel) rfl) (td_in 119 (by decide +kernel) rfl) (td_in 641 (by decide +kernel) rfl) no_J0_isLatin1_aae02 (by decide) dJ0_indexOf_7cf53_1 (Nat.le_of_ble_eq_true rfl) c_isLatin1 (eR_k ?_)
  refine td_eqs (st2 := [.int 1]) rfl ?_
  refine td_if_eq (tgt := 23) dJ0_indexOf_7cf53_4 (by decide) (fun q => absurd q (by decide)) (fun _ => ?_)
  refine td_aload_n 0 dJ0_indexOf_7cf53_7 rfl ?_
  refine td_strV rfl dJ0_indexOf_7cf53_8 ?_
  refine td_iload_n 1 dJ0_indexOf_7cf53_11 rfl ?_
  refine td_iload_n 2 dJ0_indexOf_7cf53_12 rfl ?_
  refine td_aload_n 0 dJ0_indexOf_7cf53_13 rfl ?_
  refine td_callK (Mc := mJ0_length) (as := []) rfl (td_in 644 (by decide +kernel) rfl) (td_in 645 (by decide +kernel) rfl) (td_in 646 (by decide +kernel) rfl) (td_in 119 (by decide +kernel) rfl) (td_in 647 (by decide +kernel) rfl) no_length (by decide) dJ0_indexOf_7cf53_14 (Nat.le_of_ble_eq_true rfl) c_length (eR_k ?_)
  refine td_eqs (st2 := [.int 6, .int 0, .int (nI b), .ref 2001]) rfl ?_
  refine td_callS (Mc := mJ1_indexOf) (as := [.ref 2001, .int (nI b), .int 0, .int 6]) (td_in 652 (by decide +kernel) rfl) (td_in 653 (by decide +kernel) rfl) (td_in 120 (by decide +kernel) rfl) (td_in 654 (by decide +kernel) rfl) no_J1_indexOf (by decide) dJ0_indexOf_7cf53_17 (Nat.le_of_ble_eq_true rfl) (c_L1_indexOf hb) (eR_k ?_)
  refine td_eqs (st2 := [.int (lfI b 6 0)]) rfl ?_
  refine td_goto (tgt := 36) dJ0_indexOf_7cf53_20 (by decide) ?_
  exact td_ireturn rfl dJ0_indexOf_7cf53_36 ⟨rfl, rfl⟩
theorem c_indexOf1 {G : td_G} {d : Nat} {h : td_H} {b : Nat} (hb : b < 128) : td_C G (d + 3) mJ0_indexOf_0f7a4 [.ref 2000, .int (nI b)] h (eR (lfI b 6 0) h) := by
  refine td_entry rfl (Nat.le_of_ble_eq_true rfl) rfl ?_
  refine td_aload_n 0 dJ0_indexOf_0f7a4_0 rfl ?_
  refine td_iload_n 1 dJ0_indexOf_0f7a4_1 rfl ?_
  refine td_iconst dJ0_indexOf_0f7a4_2 rfl ?_
  refine td_callK (Mc := mJ0_indexOf_7cf53) (as := [.int (nI b), .int 0]) rfl (td_in 634 (by decide +kernel) rfl) (td_in 635 (by decide +kernel) rfl) (td_in 636 (by decide +kernel) rfl) (td_in 119 (by decide +kernel) rfl) (td_in 637 (by decide +kernel) rfl) no_J0_indexOf_7cf53 (by decide) dJ0_indexOf_0f7a4_3 (Nat.le_of_ble_eq_true rfl) (c_indexOf2 hb) (eR_k ?_)
  exact td_ireturn rfl dJ0_indexOf_0f7a4_6 ⟨rfl, rfl⟩
theorem ck_X7_66 {G : td_G} {d : Nat} {M : td_M} {Post : td_P} {pc : Nat} {lv : List (Nat × Value)} {st : List Value} {h : td_H} {b : Nat} (hM : M.1.cls = RX7) (hb : b < 128) (hd : decode M.2.1 pc = .ok (.invokevirtual 66, 3)) (hst : (st.map fun v => v.category).sum ≤ 8) (kk : td_J G (d + 4) M Post (pc + 3) lv (.int (lfI b 6 0) :: st) h) : td_J G (d + 4) M Post pc lv (.int (nI b) :: .ref 2000 :: st) h := by
  refine td_callK (Mc := mJ0_indexOf_0f7a4) (as := [.int (nI b)]) rfl (by rw [hM]; exact td_in 630 (by decide +kernel) rfl) (td_in 631 (by decide +kernel) rfl) (td_in 632 (by decide +kernel) rfl) (td_in 119 (by decide +kernel) rfl) (td_in 633 (by decide +kernel) rfl) no_J0_indexOf_0f7a4 (by decide) hd hst (c_indexOf1 hb) (eR_k kk)
