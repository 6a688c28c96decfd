/-! a few more rows, for regions -/
section TDX
variable {G : td_G} {d : Nat} {M : td_M} {Post : td_P} {pc : Nat} {lv lv2 : List (Nat × Value)} {st : List Value} {h : td_H}
theorem td_ialdc {k n j : Nat} {i : Int32} (hk : td_kd k = 100 + n) (hn : n ≠ 899) (hin : vp_in i n) (hj : ix i = j) (hd : decode M.2.1 pc = .ok (.iaload, 1)) (kk : td_J G d M Post (pc + 1) lv (.int (h k j) :: st) h) : td_J G d M Post pc lv (.int i :: .ref k :: st) h := by subst hj; exact td_iald hk hn hin hd kk
theorem td_iastc {k n j : Nat} {i x : Int32} (hk : td_kd k = 100 + n) (hn : n ≠ 899) (hin : vp_in i n) (hj : ix i = j) (hd : decode M.2.1 pc = .ok (.iastore, 1)) (kk : td_J G d M Post (pc + 1) lv st (hu h k j x)) : td_J G d M Post pc lv (.int x :: .int i :: .ref k :: st) h := by subst hj; exact td_iast hk hn hin hd kk
theorem td_tic {t j : Nat} {i : Int32} (ht : t < 5) (hin : vp_in i (td_st t).length) (hj : ix i = j) (hd : decode M.2.1 pc = .ok (.iaload, 1)) (kk : td_J G d M Post (pc + 1) lv (.int ((td_st t).getD j 0) :: st) h) : td_J G d M Post pc lv (.int i :: .ref (1000 + t) :: st) h := by subst hj; exact td_ti ht hin hd kk
theorem td_nb {x : Int32} (h : x = 0 ∨ x = 1) : narrow .boolean (.int x) = .int x := by rcases h with rfl | rfl <;> rfl
theorem td_tsin {dflt lo hi : Int} {offs : Array Int} {len : Nat} {x : Int32} {off : Int} {tgt : Nat} (hd : decode M.2.1 pc = .ok (.tableswitch dflt lo hi offs, len)) (h1 : ¬ x.toInt < lo) (h2 : ¬ hi < x.toInt) (ho : offs[(x.toInt - lo).toNat]? = some off) (ht : (pc : Int) + off = (tgt : Int)) (k : td_J G d M Post tgt lv st h) : td_J G d M Post pc lv (.int x :: st) h := fun p e s m args below meth c H locs ls X => lv_tableIn X.1 X.2.1 hd h1 h2 ho ht (k p e s m args below meth c H locs ls X)
theorem td_tsout {dflt lo hi : Int} {offs : Array Int} {len : Nat} {x : Int32} {tgt : Nat} (hd : decode M.2.1 pc = .ok (.tableswitch dflt lo hi offs, len)) (h1 : x.toInt < lo ∨ hi < x.toInt) (ht : (pc : Int) + dflt = (tgt : Int)) (k : td_J G d M Post tgt lv st h) : td_J G d M Post pc lv (.int x :: st) h := fun p e s m args below meth c H locs ls X => lv_tableOut X.1 X.2.1 hd h1 ht (k p e s m args below meth c H locs ls X)
theorem td_i32 {x : Int32} {n : Nat} (g : x.toInt = n) (hn : n < 16) : x = nI n := Int32.toInt_inj.mp (by rw [g, nI_toInt (by omega)])
theorem kd_sh {i : Int32} (h : vp_in i 4) : td_kd (77 + 2 * ix i) = 6 := by
  obtain ⟨j, hj, rfl⟩ := vp_in_of h (by decide)
  show td_kd (77 + 2 * (nI j).toNatClampNeg) = 6
  rw [nI_clamp (by omega)]
  rcases (by omega : j = 0 ∨ j = 1 ∨ j = 2 ∨ j = 3) with rfl | rfl | rfl | rfl <;> rfl
end TDX
theorem kp_0 : td_kd 0 = 9 := by decide +kernel
theorem kp_1 : td_kd 1 = 5 := by decide +kernel
theorem kp_2 : td_kd 2 = 100 + 9 := by decide +kernel
theorem kp_3 : td_kd 3 = 100 + 12 := by decide +kernel
theorem kp_4 : td_kd 4 = 100 + 12 := by decide +kernel
theorem kp_5 : td_kd 5 = 100 + 12 := by decide +kernel
theorem kp_6 : td_kd 6 = 5 := by decide +kernel
theorem kp_7 : td_kd 7 = 100 + 9 := by decide +kernel
theorem kp_8 : td_kd 8 = 100 + 12 := by decide +kernel
theorem kp_9 : td_kd 9 = 100 + 12 := by decide +kernel
theorem kp_10 : td_kd 10 = 100 + 12 := by decide +kernel
theorem kp_11 : td_kd 11 = 7 := by decide +kernel
theorem kp_12 : td_kd 12 = 100 + 80 := by decide +kernel
theorem kp_13 : td_kd 13 = 100 + 8 := by decide +kernel
theorem kp_14 : td_kd 14 = 100 + 8 := by decide +kernel
theorem kp_15 : td_kd 15 = 100 + 8 := by decide +kernel
theorem kp_16 : td_kd 16 = 20 := by decide +kernel
theorem kp_17 : td_kd 17 = 0 := by decide +kernel
theorem kp_18 : td_kd 18 = 1 := by decide +kernel
theorem kp_19 : td_kd 19 = 100 + 96 := by decide +kernel
theorem kp_20 : td_kd 20 = 100 + 24 := by decide +kernel
theorem kp_21 : td_kd 21 = 100 + 4 := by decide +kernel
theorem kp_22 : td_kd 22 = 100 + 4 := by decide +kernel
theorem kp_23 : td_kd 23 = 100 + 12 := by decide +kernel
theorem kp_24 : td_kd 24 = 2 := by decide +kernel
theorem kp_25 : td_kd 25 = 100 + 12 := by decide +kernel
theorem kp_26 : td_kd 26 = 100 + 12 := by decide +kernel
theorem kp_27 : td_kd 27 = 100 + 12 := by decide +kernel
theorem kp_28 : td_kd 28 = 100 + 12 := by decide +kernel
theorem kp_29 : td_kd 29 = 100 + 12 := by decide +kernel
theorem kp_30 : td_kd 30 = 100 + 120 := by decide +kernel
theorem kp_31 : td_kd 31 = 100 + 2 := by decide +kernel
theorem kp_32 : td_kd 32 = 5 := by decide +kernel
theorem kp_33 : td_kd 33 = 100 + 9 := by decide +kernel
theorem kp_34 : td_kd 34 = 100 + 12 := by decide +kernel
theorem kp_35 : td_kd 35 = 100 + 12 := by decide +kernel
theorem kp_36 : td_kd 36 = 100 + 12 := by decide +kernel
theorem kp_37 : td_kd 37 = 3 := by decide +kernel
theorem kp_38 : td_kd 38 = 100 + 120 := by decide +kernel
theorem kp_39 : td_kd 39 = 100 + 120 := by decide +kernel
theorem kp_40 : td_kd 40 = 100 + 120 := by decide +kernel
theorem kp_41 : td_kd 41 = 100 + 120 := by decide +kernel
theorem kp_42 : td_kd 42 = 100 + 480 := by decide +kernel
theorem kp_43 : td_kd 43 = 8 := by decide +kernel
theorem kp_44 : td_kd 44 = 5 := by decide +kernel
theorem kp_45 : td_kd 45 = 100 + 9 := by decide +kernel
theorem kp_46 : td_kd 46 = 100 + 12 := by decide +kernel
theorem kp_47 : td_kd 47 = 100 + 12 := by decide +kernel
theorem kp_48 : td_kd 48 = 100 + 12 := by decide +kernel
theorem kp_49 : td_kd 49 = 0 := by decide +kernel
theorem kp_50 : td_kd 50 = 1 := by decide +kernel
theorem kp_51 : td_kd 51 = 100 + 96 := by decide +kernel
theorem kp_52 : td_kd 52 = 100 + 24 := by decide +kernel
theorem kp_53 : td_kd 53 = 100 + 4 := by decide +kernel
theorem kp_54 : td_kd 54 = 100 + 4 := by decide +kernel
theorem kp_55 : td_kd 55 = 100 + 12 := by decide +kernel
theorem kp_56 : td_kd 56 = 2 := by decide +kernel
theorem kp_57 : td_kd 57 = 100 + 12 := by decide +kernel
theorem kp_58 : td_kd 58 = 100 + 12 := by decide +kernel
theorem kp_59 : td_kd 59 = 100 + 12 := by decide +kernel
theorem kp_60 : td_kd 60 = 100 + 12 := by decide +kernel
theorem kp_61 : td_kd 61 = 100 + 12 := by decide +kernel
theorem kp_62 : td_kd 62 = 100 + 120 := by decide +kernel
theorem kp_63 : td_kd 63 = 100 + 2 := by decide +kernel
theorem kp_64 : td_kd 64 = 5 := by decide +kernel
theorem kp_65 : td_kd 65 = 100 + 9 := by decide +kernel
theorem kp_66 : td_kd 66 = 100 + 12 := by decide +kernel
theorem kp_67 : td_kd 67 = 100 + 12 := by decide +kernel
theorem kp_68 : td_kd 68 = 100 + 12 := by decide +kernel
theorem kp_69 : td_kd 69 = 4 := by decide +kernel
theorem kp_70 : td_kd 70 = 100 + 6 := by decide +kernel
theorem kp_71 : td_kd 71 = 100 + 6 := by decide +kernel
theorem kp_72 : td_kd 72 = 100 + 6 := by decide +kernel
theorem kp_73 : td_kd 73 = 100 + 21 := by decide +kernel
theorem kp_74 : td_kd 74 = 100 + 18 := by decide +kernel
theorem kp_75 : td_kd 75 = 100 + 18 := by decide +kernel
theorem kp_76 : td_kd 76 = 100 + 2268 := by decide +kernel
theorem kp_77 : td_kd 77 = 6 := by decide +kernel
theorem kp_78 : td_kd 78 = 100 + 16 := by decide +kernel
theorem kp_79 : td_kd 79 = 6 := by decide +kernel
theorem kp_80 : td_kd 80 = 100 + 16 := by decide +kernel
theorem kp_81 : td_kd 81 = 6 := by decide +kernel
theorem kp_82 : td_kd 82 = 100 + 16 := by decide +kernel
theorem kp_83 : td_kd 83 = 6 := by decide +kernel
theorem kp_84 : td_kd 84 = 100 + 16 := by decide +kernel
theorem kp_85 : td_kd 85 = 10 := by decide +kernel
theorem kp_86 : td_kd 86 = 100 + 46 := by decide +kernel
theorem kp_87 : td_kd 87 = 100 + 9 := by decide +kernel
theorem kp_88 : td_kd 88 = 100 + 12 := by decide +kernel
theorem kp_89 : td_kd 89 = 100 + 80 := by decide +kernel
theorem kp_90 : td_kd 90 = 100 + 24 := by decide +kernel
theorem kp_91 : td_kd 91 = 100 + 12 := by decide +kernel
theorem kp_92 : td_kd 92 = 100 + 12 := by decide +kernel
theorem kp_93 : td_kd 93 = 100 + 12 := by decide +kernel
theorem kp_94 : td_kd 94 = 100 + 12 := by decide +kernel
theorem kp_95 : td_kd 95 = 100 + 12 := by decide +kernel
theorem kp_96 : td_kd 96 = 100 + 12 := by decide +kernel
theorem kp_97 : td_kd 97 = 100 + 12 := by decide +kernel
theorem kp_98 : td_kd 98 = 100 + 12 := by decide +kernel
theorem kp_99 : td_kd 99 = 100 + 6 := by decide +kernel
theorem kp_100 : td_kd 100 = 100 + 6 := by decide +kernel
theorem kp_101 : td_kd 101 = 100 + 6 := by decide +kernel
theorem kp_102 : td_kd 102 = 100 + 6 := by decide +kernel
theorem kp_103 : td_kd 103 = 100 + 46 := by decide +kernel
theorem kp_104 : td_kd 104 = 100 + 4 := by decide +kernel
theorem kp_105 : td_kd 105 = 100 + 4 := by decide +kernel
theorem kp_106 : td_kd 106 = 100 + 64 := by decide +kernel
