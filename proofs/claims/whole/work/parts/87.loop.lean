/-! ===== THE LAW: its loop ===== -/
theorem lw_cmp {j Ln : Nat} (hj : j ≤ 4000) (hL : Ln ≤ 3072) : (nI Ln - nI 6 < nI j) ↔ Ln < j + 6 := by
  rw [Int32.lt_iff_toInt_lt, pk_sub_toInt (by omega) (by omega), nI_toInt (by omega)]
  omega
theorem lw_i26 {x : Int32} (h : ¬ (x.toInt < 0 ∨ 25 < x.toInt)) : ∃ n : Nat, n < 26 ∧ x = nI n := ⟨x.toInt.toNat, by omega, Int32.toInt_inj.mp (by rw [nI_toInt (by omega)]; omega)⟩
section LP
variable {G : td_G} {b Ln j : Nat} {xs : Nat → Int32} {Qf : k_Qf} {cc sl : Nat} {s : gS} {h : td_H}
set_option maxRecDepth 100000 in
theorem lw_sw (x : Int32) (hj : j + 6 ≤ Ln) (hL : Ln ≤ 3072) (hcs : cc ≤ room_1.cells ∧ sl ≤ room_1.slots) (I : DI s h) (J : MI s h) (nx : ∀ s' h', DI s' h' → MI s' h' → k_J G room_1 mL_law (lwC G b Ln xs) Qf 1000 (lwL G b j) [] (td_ws G h') cc sl) : k_J G room_1 mL_law (lwC G b Ln xs) Qf 33 (lwL G b j) [.int x] (td_ws G h) cc sl := by
  by_cases o : x.toInt < 0 ∨ 25 < x.toInt
  · exact k_tsout (tgt := 1000) dL_law_33 o (by decide) (nx s h I J)
  · obtain ⟨n, hn, rfl⟩ := lw_i26 o
    rcases (show n = 0 ∨ n = 1 ∨ n = 2 ∨ n = 3 ∨ n = 4 ∨ n = 5 ∨ n = 6 ∨ n = 7 ∨ n = 8 ∨ n = 9 ∨ n = 10 ∨ n = 11 ∨ n = 12 ∨ n = 13 ∨ n = 14 ∨ n = 15 ∨ n = 16 ∨ n = 17 ∨ n = 18 ∨ n = 19 ∨ n = 20 ∨ n = 21 ∨ n = 22 ∨ n = 23 ∨ n = 24 ∨ n = 25 by omega) with rfl | rfl | rfl | rfl | rfl | rfl | rfl | rfl | rfl | rfl | rfl | rfl | rfl | rfl | rfl | rfl | rfl | rfl | rfl | rfl | rfl | rfl | rfl | rfl | rfl | rfl
    · exact k_tsin (x := nI 0) (tgt := 152) (off := 119) dL_law_33 (by decide) (by decide) (by decide) (by decide) (lwc_0 hj hL hcs I J nx)
    · exact k_tsin (x := nI 1) (tgt := 185) (off := 152) dL_law_33 (by decide) (by decide) (by decide) (by decide) (lwc_1 hj hL hcs I J nx)
    · exact k_tsin (x := nI 2) (tgt := 228) (off := 195) dL_law_33 (by decide) (by decide) (by decide) (by decide) (lwc_2 hj hL hcs I J nx)
    · exact k_tsin (x := nI 3) (tgt := 261) (off := 228) dL_law_33 (by decide) (by decide) (by decide) (by decide) (lwc_3 hj hL hcs I J nx)
    · exact k_tsin (x := nI 4) (tgt := 304) (off := 271) dL_law_33 (by decide) (by decide) (by decide) (by decide) (lwc_4 hj hL hcs I J nx)
    · exact k_tsin (x := nI 5) (tgt := 337) (off := 304) dL_law_33 (by decide) (by decide) (by decide) (by decide) (lwc_5 hj hL hcs I J nx)
    · exact k_tsin (x := nI 6) (tgt := 370) (off := 337) dL_law_33 (by decide) (by decide) (by decide) (by decide) (lwc_6 hj hL hcs I J nx)
    · exact k_tsin (x := nI 7) (tgt := 383) (off := 350) dL_law_33 (by decide) (by decide) (by decide) (by decide) (lwc_7 hj hL hcs I J nx)
    · exact k_tsin (x := nI 8) (tgt := 446) (off := 413) dL_law_33 (by decide) (by decide) (by decide) (by decide) (lwc_8 hj hL hcs I J nx)
    · exact k_tsin (x := nI 9) (tgt := 459) (off := 426) dL_law_33 (by decide) (by decide) (by decide) (by decide) (lwc_9 hj hL hcs I J nx)
    · exact k_tsin (x := nI 10) (tgt := 492) (off := 459) dL_law_33 (by decide) (by decide) (by decide) (by decide) (lwc_10 hj hL hcs I J nx)
    · exact k_tsin (x := nI 11) (tgt := 525) (off := 492) dL_law_33 (by decide) (by decide) (by decide) (by decide) (lwc_11 hj hL hcs I J nx)
    · exact k_tsin (x := nI 12) (tgt := 558) (off := 525) dL_law_33 (by decide) (by decide) (by decide) (by decide) (lwc_12 hj hL hcs I J nx)
    · exact k_tsin (x := nI 13) (tgt := 581) (off := 548) dL_law_33 (by decide) (by decide) (by decide) (by decide) (lwc_13 hj hL hcs I J nx)
    · exact k_tsin (x := nI 14) (tgt := 604) (off := 571) dL_law_33 (by decide) (by decide) (by decide) (by decide) (lwc_14 hj hL hcs I J nx)
    · exact k_tsin (x := nI 15) (tgt := 637) (off := 604) dL_law_33 (by decide) (by decide) (by decide) (by decide) (lwc_15 hj hL hcs I J nx)
    · exact k_tsin (x := nI 16) (tgt := 660) (off := 627) dL_law_33 (by decide) (by decide) (by decide) (by decide) (lwc_16 hj hL hcs I J nx)
    · exact k_tsin (x := nI 17) (tgt := 693) (off := 660) dL_law_33 (by decide) (by decide) (by decide) (by decide) (lwc_17 hj hL hcs I J nx)
    · exact k_tsin (x := nI 18) (tgt := 726) (off := 693) dL_law_33 (by decide) (by decide) (by decide) (by decide) (lwc_18 hj hL hcs I J nx)
    · exact k_tsin (x := nI 19) (tgt := 789) (off := 756) dL_law_33 (by decide) (by decide) (by decide) (by decide) (lwc_19 hj hL hcs I J nx)
    · exact k_tsin (x := nI 20) (tgt := 812) (off := 779) dL_law_33 (by decide) (by decide) (by decide) (by decide) (lwc_20 hj hL hcs I J nx)
    · exact k_tsin (x := nI 21) (tgt := 825) (off := 792) dL_law_33 (by decide) (by decide) (by decide) (by decide) (lwc_21 hj hL hcs I J nx)
    · exact k_tsin (x := nI 22) (tgt := 838) (off := 805) dL_law_33 (by decide) (by decide) (by decide) (by decide) (lwc_22 hj hL hcs I J nx)
    · exact k_tsin (x := nI 23) (tgt := 881) (off := 848) dL_law_33 (by decide) (by decide) (by decide) (by decide) (lwc_23 hj hL hcs I J nx)
    · exact k_tsin (x := nI 24) (tgt := 904) (off := 871) dL_law_33 (by decide) (by decide) (by decide) (by decide) (lwc_24 hj hL hcs I J nx)
    · exact k_tsin (x := nI 25) (tgt := 957) (off := 924) dL_law_33 (by decide) (by decide) (by decide) (by decide) (lwc_25 hj hL hcs I J nx)
theorem lw_it (hb : j ≤ 3072) (hL : Ln ≤ 3072) (hcs : cc ≤ room_1.cells ∧ sl ≤ room_1.slots) (I : DI s h) (J : MI s h) (fin : k_J G room_1 mL_law (lwC G b Ln xs) Qf 1006 (lwL G b j) [] (td_ws G h) cc sl) (nx : j + 6 ≤ Ln → ∀ s' h', DI s' h' → MI s' h' → k_J G room_1 mL_law (lwC G b Ln xs) Qf 18 (lwL G b (j + 6)) [] (td_ws G h') cc sl) : k_J G room_1 mL_law (lwC G b Ln xs) Qf 18 (lwL G b j) [] (td_ws G h) cc sl := by
  refine k_iload_n 3 dL_law_18 rfl ?_
  refine k_aload_n 0 dL_law_19 rfl ?_
  refine k_slen dL_law_20 ?_
  refine k_bipush (v := nI 6) dL_law_21 rfl ?_
  refine k_isub dL_law_23 ?_
  refine k_icmp_gt (tgt := 1006) dL_law_24 (by decide) (fun _ => fin) (fun z => ?_)
  have hj : j + 6 ≤ Ln := Nat.not_lt.mp (fun q => z ((lw_cmp (by omega) hL).mpr q))
  refine k_aload_n 0 dL_law_27 rfl ?_
  refine k_iload_n 3 dL_law_28 rfl ?_
  refine k_sld (j := j) rfl (by omega) hL dL_law_29 ?_
  refine k_bipush (v := nI 31) dL_law_30 rfl ?_
  refine k_iand dL_law_32 ?_
  refine lw_sw _ hj hL hcs I J (fun s' h' I' J' => ?_)
  refine k_iinc (v := nI (j + 6)) 3 dL_law_1000 rfl (nI_add j 6) (by decide) rfl ?_
  exact k_goto (tgt := 18) dL_law_1003 (by decide) (nx hj s' h' I' J')
theorem lw_loop (hL : Ln ≤ 3072) (hcs : cc ≤ room_1.cells ∧ sl ≤ room_1.slots) (fin : ∀ j h, k_J G room_1 mL_law (lwC G b Ln xs) Qf 1006 (lwL G b j) [] (td_ws G h) cc sl) : ∀ (n j : Nat) (s : gS) (h : td_H), j ≤ Ln → Ln ≤ j + n → DI s h → MI s h → k_J G room_1 mL_law (lwC G b Ln xs) Qf 18 (lwL G b j) [] (td_ws G h) cc sl := by
  intro n
  induction n with
  | zero => exact fun j s h h1 h2 I J => lw_it (by omega) hL hcs I J (fin j h) (fun z => absurd z (by omega))
  | succ n ih => exact fun j s h h1 h2 I J => lw_it (by omega) hL hcs I J (fin j h) (fun z s' h' I' J' => ih _ s' h' z (by omega) I' J')
end LP
/-- the end: true, nothing that was there before written -/
def lwQ : k_Qf := fun below args s => lw_Z below args s
theorem lw_fin {G : td_G} {b Ln : Nat} {xs : Nat → Int32} {cc sl : Nat} (hcs : cc ≤ room_1.cells ∧ sl ≤ room_1.slots) {lv : List (Nat × Value)} {L : va_W} : k_J G room_1 mL_law (lwC G b Ln xs) lwQ 1006 lv [] L cc sl := by
  intro p e s m args below meth c H locs ls X hc hl
  obtain ⟨a1, a2, a3, a4, a5, a6, a7, a8, a9, a10, a11, a12, a13, a14⟩ := X
  obtain ⟨rfl, hX, hb, hG⟩ := hc
  refine lv_iconst (v := 1) a1 a2 dL_law_1006 rfl ?_
  refine va_forget (fun q hq => ?_) ?_
  · have z : td_A G q.base := a14.2.2 q hq
    unfold td_A at z
    rw [← hG]; exact z
  · exact W.widen hcs.1 hcs.2 (lw_ret a1 a2 a3 a7 dL_law_1007)
