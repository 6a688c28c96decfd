theorem dX0_init_0 : decode cX0_init 0 = .ok (.aload_n 0, 1) := by decide +kernel
theorem dX0_init_1 : decode cX0_init 1 = .ok (.invokespecial 3, 3) := by decide +kernel
theorem dX0_init_4 : decode cX0_init 4 = .ok (.aload_n 0, 1) := by decide +kernel
theorem dX0_init_5 : decode cX0_init 5 = .ok (.new 9, 3) := by decide +kernel
theorem dX0_init_8 : decode cX0_init 8 = .ok (.dup, 1) := by decide +kernel
theorem dX0_init_9 : decode cX0_init 9 = .ok (.invokespecial 11, 3) := by decide +kernel
theorem dX0_init_12 : decode cX0_init 12 = .ok (.putfield 12, 3) := by decide +kernel
theorem dX0_init_15 : decode cX0_init 15 = .ok (.aload_n 0, 1) := by decide +kernel
theorem dX0_init_16 : decode cX0_init 16 = .ok (.new 18, 3) := by decide +kernel
theorem dX0_init_19 : decode cX0_init 19 = .ok (.dup, 1) := by decide +kernel
theorem dX0_init_20 : decode cX0_init 20 = .ok (.invokespecial 20, 3) := by decide +kernel
theorem dX0_init_23 : decode cX0_init 23 = .ok (.putfield 21, 3) := by decide +kernel
theorem dX0_init_26 : decode cX0_init 26 = .ok (.aload_n 0, 1) := by decide +kernel
theorem dX0_init_27 : decode cX0_init 27 = .ok (.bipush 12, 2) := by decide +kernel
theorem dX0_init_29 : decode cX0_init 29 = .ok (.newarray .int, 2) := by decide +kernel
theorem dX0_init_31 : decode cX0_init 31 = .ok (.putfield 25, 3) := by decide +kernel
theorem dX0_init_34 : decode cX0_init 34 = .ok (.aload_n 0, 1) := by decide +kernel
theorem dX0_init_35 : decode cX0_init 35 = .ok (.bipush 120, 2) := by decide +kernel
theorem dX0_init_37 : decode cX0_init 37 = .ok (.newarray .int, 2) := by decide +kernel
theorem dX0_init_39 : decode cX0_init 39 = .ok (.putfield 29, 3) := by decide +kernel
theorem dX0_init_42 : decode cX0_init 42 = .ok (.aload_n 0, 1) := by decide +kernel
theorem dX0_init_43 : decode cX0_init 43 = .ok (.iconst 2, 1) := by decide +kernel
theorem dX0_init_44 : decode cX0_init 44 = .ok (.newarray .int, 2) := by decide +kernel
theorem dX0_init_46 : decode cX0_init 46 = .ok (.putfield 32, 3) := by decide +kernel
theorem dX0_init_49 : decode cX0_init 49 = .ok (.aload_n 0, 1) := by decide +kernel
theorem dX0_init_50 : decode cX0_init 50 = .ok (.new 35, 3) := by decide +kernel
theorem dX0_init_53 : decode cX0_init 53 = .ok (.dup, 1) := by decide +kernel
theorem dX0_init_54 : decode cX0_init 54 = .ok (.invokespecial 37, 3) := by decide +kernel
theorem dX0_init_57 : decode cX0_init 57 = .ok (.putfield 38, 3) := by decide +kernel
theorem dX0_init_60 : decode cX0_init 60 = .ok (.return_, 1) := by decide +kernel
theorem dX0_begin_0 : decode cX0_begin 0 = .ok (.aload_n 0, 1) := by decide +kernel
theorem dX0_begin_1 : decode cX0_begin 1 = .ok (.aload_n 1, 1) := by decide +kernel
theorem dX0_begin_2 : decode cX0_begin 2 = .ok (.putfield 38, 3) := by decide +kernel
theorem dX0_begin_5 : decode cX0_begin 5 = .ok (.aload_n 0, 1) := by decide +kernel
theorem dX0_begin_6 : decode cX0_begin 6 = .ok (.iload_n 2, 1) := by decide +kernel
theorem dX0_begin_7 : decode cX0_begin 7 = .ok (.putfield 42, 3) := by decide +kernel
theorem dX0_begin_10 : decode cX0_begin 10 = .ok (.aload_n 0, 1) := by decide +kernel
theorem dX0_begin_11 : decode cX0_begin 11 = .ok (.getfield 12, 3) := by decide +kernel
theorem dX0_begin_14 : decode cX0_begin 14 = .ok (.aload_n 1, 1) := by decide +kernel
theorem dX0_begin_15 : decode cX0_begin 15 = .ok (.invokevirtual 46, 3) := by decide +kernel
theorem dX0_begin_18 : decode cX0_begin 18 = .ok (.aload_n 0, 1) := by decide +kernel
theorem dX0_begin_19 : decode cX0_begin 19 = .ok (.getfield 21, 3) := by decide +kernel
theorem dX0_begin_22 : decode cX0_begin 22 = .ok (.invokevirtual 50, 3) := by decide +kernel
theorem dX0_begin_25 : decode cX0_begin 25 = .ok (.aload_n 0, 1) := by decide +kernel
theorem dX0_begin_26 : decode cX0_begin 26 = .ok (.iconst 0, 1) := by decide +kernel
theorem dX0_begin_27 : decode cX0_begin 27 = .ok (.putfield 52, 3) := by decide +kernel
theorem dX0_begin_30 : decode cX0_begin 30 = .ok (.aload_n 0, 1) := by decide +kernel
theorem dX0_begin_31 : decode cX0_begin 31 = .ok (.iconst 0, 1) := by decide +kernel
theorem dX0_begin_32 : decode cX0_begin 32 = .ok (.putfield 55, 3) := by decide +kernel
theorem dX0_begin_35 : decode cX0_begin 35 = .ok (.aload_n 0, 1) := by decide +kernel
theorem dX0_begin_36 : decode cX0_begin 36 = .ok (.iconst 0, 1) := by decide +kernel
theorem dX0_begin_37 : decode cX0_begin 37 = .ok (.putfield 58, 3) := by decide +kernel
theorem dX0_begin_40 : decode cX0_begin 40 = .ok (.aload_n 0, 1) := by decide +kernel
theorem dX0_begin_41 : decode cX0_begin 41 = .ok (.iconst 0, 1) := by decide +kernel
theorem dX0_begin_42 : decode cX0_begin 42 = .ok (.putfield 61, 3) := by decide +kernel
theorem dX0_begin_45 : decode cX0_begin 45 = .ok (.aload_n 0, 1) := by decide +kernel
theorem dX0_begin_46 : decode cX0_begin 46 = .ok (.iconst 0, 1) := by decide +kernel
theorem dX0_begin_47 : decode cX0_begin 47 = .ok (.putfield 64, 3) := by decide +kernel
theorem dX0_begin_50 : decode cX0_begin 50 = .ok (.aload_n 0, 1) := by decide +kernel
theorem dX0_begin_51 : decode cX0_begin 51 = .ok (.iconst 0, 1) := by decide +kernel
theorem dX0_begin_52 : decode cX0_begin 52 = .ok (.putfield 67, 3) := by decide +kernel
theorem dX0_begin_55 : decode cX0_begin 55 = .ok (.aload_n 0, 1) := by decide +kernel
theorem dX0_begin_56 : decode cX0_begin 56 = .ok (.invokevirtual 70, 3) := by decide +kernel
theorem dX0_begin_59 : decode cX0_begin 59 = .ok (.aload_n 0, 1) := by decide +kernel
theorem dX0_begin_60 : decode cX0_begin 60 = .ok (.invokevirtual 73, 3) := by decide +kernel
theorem dX0_begin_63 : decode cX0_begin 63 = .ok (.return_, 1) := by decide +kernel
theorem dX0_gather_0 : decode cX0_gather 0 = .ok (.aload_n 0, 1) := by decide +kernel
theorem dX0_gather_1 : decode cX0_gather 1 = .ok (.iconst 0, 1) := by decide +kernel
theorem dX0_gather_2 : decode cX0_gather 2 = .ok (.putfield 76, 3) := by decide +kernel
theorem dX0_gather_5 : decode cX0_gather 5 = .ok (.aload_n 0, 1) := by decide +kernel
theorem dX0_gather_6 : decode cX0_gather 6 = .ok (.iconst 0, 1) := by decide +kernel
theorem dX0_gather_7 : decode cX0_gather 7 = .ok (.putfield 79, 3) := by decide +kernel
theorem dX0_gather_10 : decode cX0_gather 10 = .ok (.aload_n 0, 1) := by decide +kernel
theorem dX0_gather_11 : decode cX0_gather 11 = .ok (.getfield 32, 3) := by decide +kernel
theorem dX0_gather_14 : decode cX0_gather 14 = .ok (.iconst 0, 1) := by decide +kernel
theorem dX0_gather_15 : decode cX0_gather 15 = .ok (.iconst 0, 1) := by decide +kernel
theorem dX0_gather_16 : decode cX0_gather 16 = .ok (.iastore, 1) := by decide +kernel
theorem dX0_gather_17 : decode cX0_gather 17 = .ok (.aload_n 0, 1) := by decide +kernel
theorem dX0_gather_18 : decode cX0_gather 18 = .ok (.getfield 32, 3) := by decide +kernel
theorem dX0_gather_21 : decode cX0_gather 21 = .ok (.iconst 1, 1) := by decide +kernel
theorem dX0_gather_22 : decode cX0_gather 22 = .ok (.iconst 0, 1) := by decide +kernel
theorem dX0_gather_23 : decode cX0_gather 23 = .ok (.iastore, 1) := by decide +kernel
theorem dX0_gather_24 : decode cX0_gather 24 = .ok (.aload_n 0, 1) := by decide +kernel
theorem dX0_gather_25 : decode cX0_gather 25 = .ok (.getfield 29, 3) := by decide +kernel
theorem dX0_gather_28 : decode cX0_gather 28 = .ok (.iconst 0, 1) := by decide +kernel
theorem dX0_gather_29 : decode cX0_gather 29 = .ok (.invokestatic 82, 3) := by decide +kernel
theorem dX0_gather_32 : decode cX0_gather 32 = .ok (.iconst 0, 1) := by decide +kernel
theorem dX0_gather_33 : decode cX0_gather 33 = .ok (.istore_n 1, 1) := by decide +kernel
theorem dX0_gather_34 : decode cX0_gather 34 = .ok (.iload_n 1, 1) := by decide +kernel
theorem dX0_gather_35 : decode cX0_gather 35 = .ok (.aload_n 0, 1) := by decide +kernel
theorem dX0_gather_36 : decode cX0_gather 36 = .ok (.getfield 38, 3) := by decide +kernel
theorem dX0_gather_39 : decode cX0_gather 39 = .ok (.getfield 88, 3) := by decide +kernel
theorem dX0_gather_42 : decode cX0_gather 42 = .ok (.if_icmp .ge 103, 3) := by decide +kernel
theorem dX0_gather_45 : decode cX0_gather 45 = .ok (.iconst 1, 1) := by decide +kernel
theorem dX0_gather_46 : decode cX0_gather 46 = .ok (.iload_n 1, 1) := by decide +kernel
theorem dX0_gather_47 : decode cX0_gather 47 = .ok (.ishl, 1) := by decide +kernel
theorem dX0_gather_48 : decode cX0_gather 48 = .ok (.istore_n 2, 1) := by decide +kernel
theorem dX0_gather_49 : decode cX0_gather 49 = .ok (.aload_n 0, 1) := by decide +kernel
theorem dX0_gather_50 : decode cX0_gather 50 = .ok (.getfield 32, 3) := by decide +kernel
theorem dX0_gather_53 : decode cX0_gather 53 = .ok (.aload_n 0, 1) := by decide +kernel
theorem dX0_gather_54 : decode cX0_gather 54 = .ok (.getfield 38, 3) := by decide +kernel
theorem dX0_gather_57 : decode cX0_gather 57 = .ok (.getfield 91, 3) := by decide +kernel
theorem dX0_gather_60 : decode cX0_gather 60 = .ok (.iload_n 1, 1) := by decide +kernel
theorem dX0_gather_61 : decode cX0_gather 61 = .ok (.iaload, 1) := by decide +kernel
theorem dX0_gather_62 : decode cX0_gather 62 = .ok (.dup2, 1) := by decide +kernel
theorem dX0_gather_63 : decode cX0_gather 63 = .ok (.iaload, 1) := by decide +kernel
theorem dX0_gather_64 : decode cX0_gather 64 = .ok (.iload_n 2, 1) := by decide +kernel
theorem dX0_gather_65 : decode cX0_gather 65 = .ok (.ior, 1) := by decide +kernel
theorem dX0_gather_66 : decode cX0_gather 66 = .ok (.iastore, 1) := by decide +kernel
theorem dX0_gather_67 : decode cX0_gather 67 = .ok (.aload_n 0, 1) := by decide +kernel
theorem dX0_gather_68 : decode cX0_gather 68 = .ok (.getfield 29, 3) := by decide +kernel
theorem dX0_gather_71 : decode cX0_gather 71 = .ok (.aload_n 0, 1) := by decide +kernel
theorem dX0_gather_72 : decode cX0_gather 72 = .ok (.getfield 38, 3) := by decide +kernel
theorem dX0_gather_75 : decode cX0_gather 75 = .ok (.getfield 94, 3) := by decide +kernel
theorem dX0_gather_78 : decode cX0_gather 78 = .ok (.iload_n 1, 1) := by decide +kernel
theorem dX0_gather_79 : decode cX0_gather 79 = .ok (.iaload, 1) := by decide +kernel
theorem dX0_gather_80 : decode cX0_gather 80 = .ok (.dup2, 1) := by decide +kernel
theorem dX0_gather_81 : decode cX0_gather 81 = .ok (.iaload, 1) := by decide +kernel
theorem dX0_gather_82 : decode cX0_gather 82 = .ok (.iload_n 2, 1) := by decide +kernel
theorem dX0_gather_83 : decode cX0_gather 83 = .ok (.aload_n 0, 1) := by decide +kernel
theorem dX0_gather_84 : decode cX0_gather 84 = .ok (.getfield 42, 3) := by decide +kernel
theorem dX0_gather_87 : decode cX0_gather 87 = .ok (.iand, 1) := by decide +kernel
theorem dX0_gather_88 : decode cX0_gather 88 = .ok (.ior, 1) := by decide +kernel
theorem dX0_gather_89 : decode cX0_gather 89 = .ok (.iastore, 1) := by decide +kernel
theorem dX0_gather_90 : decode cX0_gather 90 = .ok (.aload_n 0, 1) := by decide +kernel
theorem dX0_gather_91 : decode cX0_gather 91 = .ok (.getfield 38, 3) := by decide +kernel
theorem dX0_gather_94 : decode cX0_gather 94 = .ok (.getfield 97, 3) := by decide +kernel
theorem dX0_gather_97 : decode cX0_gather 97 = .ok (.iload_n 1, 1) := by decide +kernel
theorem dX0_gather_98 : decode cX0_gather 98 = .ok (.iaload, 1) := by decide +kernel
theorem dX0_gather_99 : decode cX0_gather 99 = .ok (.iconst 3, 1) := by decide +kernel
theorem dX0_gather_100 : decode cX0_gather 100 = .ok (.if_icmp .ne 16, 3) := by decide +kernel
theorem dX0_gather_103 : decode cX0_gather 103 = .ok (.aload_n 0, 1) := by decide +kernel
theorem dX0_gather_104 : decode cX0_gather 104 = .ok (.dup, 1) := by decide +kernel
theorem dX0_gather_105 : decode cX0_gather 105 = .ok (.getfield 76, 3) := by decide +kernel
theorem dX0_gather_108 : decode cX0_gather 108 = .ok (.iload_n 2, 1) := by decide +kernel
theorem dX0_gather_109 : decode cX0_gather 109 = .ok (.ior, 1) := by decide +kernel
theorem dX0_gather_110 : decode cX0_gather 110 = .ok (.putfield 76, 3) := by decide +kernel
theorem dX0_gather_113 : decode cX0_gather 113 = .ok (.goto 26, 3) := by decide +kernel
theorem dX0_gather_116 : decode cX0_gather 116 = .ok (.aload_n 0, 1) := by decide +kernel
theorem dX0_gather_117 : decode cX0_gather 117 = .ok (.getfield 38, 3) := by decide +kernel
theorem dX0_gather_120 : decode cX0_gather 120 = .ok (.getfield 97, 3) := by decide +kernel
theorem dX0_gather_123 : decode cX0_gather 123 = .ok (.iload_n 1, 1) := by decide +kernel
theorem dX0_gather_124 : decode cX0_gather 124 = .ok (.iaload, 1) := by decide +kernel
theorem dX0_gather_125 : decode cX0_gather 125 = .ok (.iconst 5, 1) := by decide +kernel
theorem dX0_gather_126 : decode cX0_gather 126 = .ok (.if_icmp .ne 13, 3) := by decide +kernel
theorem dX0_gather_129 : decode cX0_gather 129 = .ok (.aload_n 0, 1) := by decide +kernel
theorem dX0_gather_130 : decode cX0_gather 130 = .ok (.dup, 1) := by decide +kernel
theorem dX0_gather_131 : decode cX0_gather 131 = .ok (.getfield 79, 3) := by decide +kernel
theorem dX0_gather_134 : decode cX0_gather 134 = .ok (.iload_n 2, 1) := by decide +kernel
theorem dX0_gather_135 : decode cX0_gather 135 = .ok (.ior, 1) := by decide +kernel
theorem dX0_gather_136 : decode cX0_gather 136 = .ok (.putfield 79, 3) := by decide +kernel
theorem dX0_gather_139 : decode cX0_gather 139 = .ok (.iinc 1 1, 3) := by decide +kernel
theorem dX0_gather_142 : decode cX0_gather 142 = .ok (.goto (-108), 3) := by decide +kernel
theorem dX0_gather_145 : decode cX0_gather 145 = .ok (.return_, 1) := by decide +kernel
theorem dX0_lineUp_0 : decode cX0_lineUp 0 = .ok (.iconst 0, 1) := by decide +kernel
theorem dX0_lineUp_1 : decode cX0_lineUp 1 = .ok (.istore_n 1, 1) := by decide +kernel
theorem dX0_lineUp_2 : decode cX0_lineUp 2 = .ok (.iload_n 1, 1) := by decide +kernel
theorem dX0_lineUp_3 : decode cX0_lineUp 3 = .ok (.aload_n 0, 1) := by decide +kernel
theorem dX0_lineUp_4 : decode cX0_lineUp 4 = .ok (.getfield 38, 3) := by decide +kernel
theorem dX0_lineUp_7 : decode cX0_lineUp 7 = .ok (.getfield 88, 3) := by decide +kernel
theorem dX0_lineUp_10 : decode cX0_lineUp 10 = .ok (.if_icmp .ge 58, 3) := by decide +kernel
theorem dX0_lineUp_13 : decode cX0_lineUp 13 = .ok (.iload_n 1, 1) := by decide +kernel
theorem dX0_lineUp_14 : decode cX0_lineUp 14 = .ok (.istore_n 2, 1) := by decide +kernel
theorem dX0_lineUp_15 : decode cX0_lineUp 15 = .ok (.iload_n 2, 1) := by decide +kernel
theorem dX0_lineUp_16 : decode cX0_lineUp 16 = .ok (.ifCond .le 39, 3) := by decide +kernel
theorem dX0_lineUp_19 : decode cX0_lineUp 19 = .ok (.aload_n 0, 1) := by decide +kernel
theorem dX0_lineUp_20 : decode cX0_lineUp 20 = .ok (.iload_n 1, 1) := by decide +kernel
theorem dX0_lineUp_21 : decode cX0_lineUp 21 = .ok (.aload_n 0, 1) := by decide +kernel
theorem dX0_lineUp_22 : decode cX0_lineUp 22 = .ok (.getfield 25, 3) := by decide +kernel
theorem dX0_lineUp_25 : decode cX0_lineUp 25 = .ok (.iload_n 2, 1) := by decide +kernel
theorem dX0_lineUp_26 : decode cX0_lineUp 26 = .ok (.iconst 1, 1) := by decide +kernel
theorem dX0_lineUp_27 : decode cX0_lineUp 27 = .ok (.isub, 1) := by decide +kernel
theorem dX0_lineUp_28 : decode cX0_lineUp 28 = .ok (.iaload, 1) := by decide +kernel
theorem dX0_lineUp_29 : decode cX0_lineUp 29 = .ok (.invokevirtual 100, 3) := by decide +kernel
theorem dX0_lineUp_32 : decode cX0_lineUp 32 = .ok (.ifCond .eq 23, 3) := by decide +kernel
theorem dX0_lineUp_35 : decode cX0_lineUp 35 = .ok (.aload_n 0, 1) := by decide +kernel
theorem dX0_lineUp_36 : decode cX0_lineUp 36 = .ok (.getfield 25, 3) := by decide +kernel
theorem dX0_lineUp_39 : decode cX0_lineUp 39 = .ok (.iload_n 2, 1) := by decide +kernel
theorem dX0_lineUp_40 : decode cX0_lineUp 40 = .ok (.aload_n 0, 1) := by decide +kernel
theorem dX0_lineUp_41 : decode cX0_lineUp 41 = .ok (.getfield 25, 3) := by decide +kernel
theorem dX0_lineUp_44 : decode cX0_lineUp 44 = .ok (.iload_n 2, 1) := by decide +kernel
theorem dX0_lineUp_45 : decode cX0_lineUp 45 = .ok (.iconst 1, 1) := by decide +kernel
theorem dX0_lineUp_46 : decode cX0_lineUp 46 = .ok (.isub, 1) := by decide +kernel
theorem dX0_lineUp_47 : decode cX0_lineUp 47 = .ok (.iaload, 1) := by decide +kernel
theorem dX0_lineUp_48 : decode cX0_lineUp 48 = .ok (.iastore, 1) := by decide +kernel
theorem dX0_lineUp_49 : decode cX0_lineUp 49 = .ok (.iinc 2 (-1), 3) := by decide +kernel
theorem dX0_lineUp_52 : decode cX0_lineUp 52 = .ok (.goto (-37), 3) := by decide +kernel
theorem dX0_lineUp_55 : decode cX0_lineUp 55 = .ok (.aload_n 0, 1) := by decide +kernel
theorem dX0_lineUp_56 : decode cX0_lineUp 56 = .ok (.getfield 25, 3) := by decide +kernel
theorem dX0_lineUp_59 : decode cX0_lineUp 59 = .ok (.iload_n 2, 1) := by decide +kernel
theorem dX0_lineUp_60 : decode cX0_lineUp 60 = .ok (.iload_n 1, 1) := by decide +kernel
theorem dX0_lineUp_61 : decode cX0_lineUp 61 = .ok (.iastore, 1) := by decide +kernel
theorem dX0_lineUp_62 : decode cX0_lineUp 62 = .ok (.iinc 1 1, 3) := by decide +kernel
theorem dX0_lineUp_65 : decode cX0_lineUp 65 = .ok (.goto (-63), 3) := by decide +kernel
theorem dX0_lineUp_68 : decode cX0_lineUp 68 = .ok (.return_, 1) := by decide +kernel
theorem dX0_isAhead_0 : decode cX0_isAhead 0 = .ok (.aload_n 0, 1) := by decide +kernel
theorem dX0_isAhead_1 : decode cX0_isAhead 1 = .ok (.getfield 38, 3) := by decide +kernel
theorem dX0_isAhead_4 : decode cX0_isAhead 4 = .ok (.getfield 97, 3) := by decide +kernel
theorem dX0_isAhead_7 : decode cX0_isAhead 7 = .ok (.iload_n 1, 1) := by decide +kernel
theorem dX0_isAhead_8 : decode cX0_isAhead 8 = .ok (.iaload, 1) := by decide +kernel
theorem dX0_isAhead_9 : decode cX0_isAhead 9 = .ok (.iconst 4, 1) := by decide +kernel
theorem dX0_isAhead_10 : decode cX0_isAhead 10 = .ok (.if_icmp .ne 7, 3) := by decide +kernel
theorem dX0_isAhead_13 : decode cX0_isAhead 13 = .ok (.iconst 1, 1) := by decide +kernel
theorem dX0_isAhead_14 : decode cX0_isAhead 14 = .ok (.goto 4, 3) := by decide +kernel
theorem dX0_isAhead_17 : decode cX0_isAhead 17 = .ok (.iconst 0, 1) := by decide +kernel
theorem dX0_isAhead_18 : decode cX0_isAhead 18 = .ok (.istore_n 3, 1) := by decide +kernel
theorem dX0_isAhead_19 : decode cX0_isAhead 19 = .ok (.iload_n 3, 1) := by decide +kernel
theorem dX0_isAhead_20 : decode cX0_isAhead 20 = .ok (.aload_n 0, 1) := by decide +kernel
theorem dX0_isAhead_21 : decode cX0_isAhead 21 = .ok (.getfield 38, 3) := by decide +kernel
theorem dX0_isAhead_24 : decode cX0_isAhead 24 = .ok (.getfield 97, 3) := by decide +kernel
theorem dX0_isAhead_27 : decode cX0_isAhead 27 = .ok (.iload_n 2, 1) := by decide +kernel
theorem dX0_isAhead_28 : decode cX0_isAhead 28 = .ok (.iaload, 1) := by decide +kernel
theorem dX0_isAhead_29 : decode cX0_isAhead 29 = .ok (.iconst 4, 1) := by decide +kernel
theorem dX0_isAhead_30 : decode cX0_isAhead 30 = .ok (.if_icmp .ne 7, 3) := by decide +kernel
theorem dX0_isAhead_33 : decode cX0_isAhead 33 = .ok (.iconst 1, 1) := by decide +kernel
theorem dX0_isAhead_34 : decode cX0_isAhead 34 = .ok (.goto 4, 3) := by decide +kernel
theorem dX0_isAhead_37 : decode cX0_isAhead 37 = .ok (.iconst 0, 1) := by decide +kernel
theorem dX0_isAhead_38 : decode cX0_isAhead 38 = .ok (.if_icmp .eq 5, 3) := by decide +kernel
theorem dX0_isAhead_41 : decode cX0_isAhead 41 = .ok (.iload_n 3, 1) := by decide +kernel
theorem dX0_isAhead_42 : decode cX0_isAhead 42 = .ok (.ireturn, 1) := by decide +kernel
theorem dX0_isAhead_43 : decode cX0_isAhead 43 = .ok (.aload_n 0, 1) := by decide +kernel
theorem dX0_isAhead_44 : decode cX0_isAhead 44 = .ok (.getfield 38, 3) := by decide +kernel
theorem dX0_isAhead_47 : decode cX0_isAhead 47 = .ok (.getfield 94, 3) := by decide +kernel
theorem dX0_isAhead_50 : decode cX0_isAhead 50 = .ok (.iload_n 1, 1) := by decide +kernel
theorem dX0_isAhead_51 : decode cX0_isAhead 51 = .ok (.iaload, 1) := by decide +kernel
theorem dX0_isAhead_52 : decode cX0_isAhead 52 = .ok (.aload_n 0, 1) := by decide +kernel
theorem dX0_isAhead_53 : decode cX0_isAhead 53 = .ok (.getfield 38, 3) := by decide +kernel
theorem dX0_isAhead_56 : decode cX0_isAhead 56 = .ok (.getfield 94, 3) := by decide +kernel
theorem dX0_isAhead_59 : decode cX0_isAhead 59 = .ok (.iload_n 2, 1) := by decide +kernel
theorem dX0_isAhead_60 : decode cX0_isAhead 60 = .ok (.iaload, 1) := by decide +kernel
theorem dX0_isAhead_61 : decode cX0_isAhead 61 = .ok (.if_icmp .ge 7, 3) := by decide +kernel
theorem dX0_isAhead_64 : decode cX0_isAhead 64 = .ok (.iconst 1, 1) := by decide +kernel
theorem dX0_isAhead_65 : decode cX0_isAhead 65 = .ok (.goto 4, 3) := by decide +kernel
theorem dX0_isAhead_68 : decode cX0_isAhead 68 = .ok (.iconst 0, 1) := by decide +kernel
theorem dX0_isAhead_69 : decode cX0_isAhead 69 = .ok (.ireturn, 1) := by decide +kernel
theorem dX0_run_0 : decode cX0_run 0 = .ok (.iconst 0, 1) := by decide +kernel
theorem dX0_run_1 : decode cX0_run 1 = .ok (.istore_n 3, 1) := by decide +kernel
theorem dX0_run_2 : decode cX0_run 2 = .ok (.iload_n 3, 1) := by decide +kernel
theorem dX0_run_3 : decode cX0_run 3 = .ok (.iload_n 1, 1) := by decide +kernel
theorem dX0_run_4 : decode cX0_run 4 = .ok (.if_icmp .gt 39, 3) := by decide +kernel
theorem dX0_run_7 : decode cX0_run 7 = .ok (.iload_n 3, 1) := by decide +kernel
theorem dX0_run_8 : decode cX0_run 8 = .ok (.bipush 120, 2) := by decide +kernel
theorem dX0_run_10 : decode cX0_run 10 = .ok (.if_icmp .ge 33, 3) := by decide +kernel
theorem dX0_run_13 : decode cX0_run 13 = .ok (.iload_n 2, 1) := by decide +kernel
theorem dX0_run_14 : decode cX0_run 14 = .ok (.ifCond .eq 18, 3) := by decide +kernel
theorem dX0_run_17 : decode cX0_run 17 = .ok (.aload_n 0, 1) := by decide +kernel
theorem dX0_run_18 : decode cX0_run 18 = .ok (.getfield 21, 3) := by decide +kernel
theorem dX0_run_21 : decode cX0_run 21 = .ok (.getfield 104, 3) := by decide +kernel
theorem dX0_run_24 : decode cX0_run 24 = .ok (.aload_n 0, 1) := by decide +kernel
theorem dX0_run_25 : decode cX0_run 25 = .ok (.getfield 42, 3) := by decide +kernel
theorem dX0_run_28 : decode cX0_run 28 = .ok (.if_icmp .ne 4, 3) := by decide +kernel
theorem dX0_run_31 : decode cX0_run 31 = .ok (.return_, 1) := by decide +kernel
theorem dX0_run_32 : decode cX0_run 32 = .ok (.aload_n 0, 1) := by decide +kernel
theorem dX0_run_33 : decode cX0_run 33 = .ok (.iload_n 3, 1) := by decide +kernel
theorem dX0_run_34 : decode cX0_run 34 = .ok (.invokevirtual 107, 3) := by decide +kernel
theorem dX0_run_37 : decode cX0_run 37 = .ok (.iinc 3 1, 3) := by decide +kernel
theorem dX0_run_40 : decode cX0_run 40 = .ok (.goto (-38), 3) := by decide +kernel
theorem dX0_run_43 : decode cX0_run 43 = .ok (.return_, 1) := by decide +kernel
theorem dX0_pass_0 : decode cX0_pass 0 = .ok (.aload_n 0, 1) := by decide +kernel
theorem dX0_pass_1 : decode cX0_pass 1 = .ok (.dup, 1) := by decide +kernel
theorem dX0_pass_2 : decode cX0_pass 2 = .ok (.getfield 55, 3) := by decide +kernel
theorem dX0_pass_5 : decode cX0_pass 5 = .ok (.aload_n 0, 1) := by decide +kernel
theorem dX0_pass_6 : decode cX0_pass 6 = .ok (.getfield 29, 3) := by decide +kernel
theorem dX0_pass_9 : decode cX0_pass 9 = .ok (.iload_n 1, 1) := by decide +kernel
theorem dX0_pass_10 : decode cX0_pass 10 = .ok (.iaload, 1) := by decide +kernel
theorem dX0_pass_11 : decode cX0_pass 11 = .ok (.ior, 1) := by decide +kernel
theorem dX0_pass_12 : decode cX0_pass 12 = .ok (.putfield 55, 3) := by decide +kernel
theorem dX0_pass_15 : decode cX0_pass 15 = .ok (.iload_n 1, 1) := by decide +kernel
theorem dX0_pass_16 : decode cX0_pass 16 = .ok (.aload_n 0, 1) := by decide +kernel
theorem dX0_pass_17 : decode cX0_pass 17 = .ok (.getfield 38, 3) := by decide +kernel
theorem dX0_pass_20 : decode cX0_pass 20 = .ok (.getfield 111, 3) := by decide +kernel
theorem dX0_pass_23 : decode cX0_pass 23 = .ok (.bipush 8, 2) := by decide +kernel
theorem dX0_pass_25 : decode cX0_pass 25 = .ok (.iaload, 1) := by decide +kernel
theorem dX0_pass_26 : decode cX0_pass 26 = .ok (.if_icmp .lt 11, 3) := by decide +kernel
theorem dX0_pass_29 : decode cX0_pass 29 = .ok (.aload_n 0, 1) := by decide +kernel
theorem dX0_pass_30 : decode cX0_pass 30 = .ok (.iload_n 1, 1) := by decide +kernel
theorem dX0_pass_31 : decode cX0_pass 31 = .ok (.invokevirtual 114, 3) := by decide +kernel
theorem dX0_pass_34 : decode cX0_pass 34 = .ok (.goto 40, 3) := by decide +kernel
theorem dX0_pass_37 : decode cX0_pass 37 = .ok (.aload_n 0, 1) := by decide +kernel
theorem dX0_pass_38 : decode cX0_pass 38 = .ok (.invokevirtual 117, 3) := by decide +kernel
theorem dX0_pass_41 : decode cX0_pass 41 = .ok (.iconst 0, 1) := by decide +kernel
theorem dX0_pass_42 : decode cX0_pass 42 = .ok (.istore_n 2, 1) := by decide +kernel
theorem dX0_pass_43 : decode cX0_pass 43 = .ok (.iload_n 2, 1) := by decide +kernel
theorem dX0_pass_44 : decode cX0_pass 44 = .ok (.aload_n 0, 1) := by decide +kernel
theorem dX0_pass_45 : decode cX0_pass 45 = .ok (.getfield 61, 3) := by decide +kernel
theorem dX0_pass_48 : decode cX0_pass 48 = .ok (.if_icmp .ge 14, 3) := by decide +kernel
theorem dX0_pass_51 : decode cX0_pass 51 = .ok (.aload_n 0, 1) := by decide +kernel
theorem dX0_pass_52 : decode cX0_pass 52 = .ok (.iload_n 1, 1) := by decide +kernel
theorem dX0_pass_53 : decode cX0_pass 53 = .ok (.invokevirtual 120, 3) := by decide +kernel
theorem dX0_pass_56 : decode cX0_pass 56 = .ok (.iinc 2 1, 3) := by decide +kernel
theorem dX0_pass_59 : decode cX0_pass 59 = .ok (.goto (-16), 3) := by decide +kernel
theorem dX0_pass_62 : decode cX0_pass 62 = .ok (.aload_n 0, 1) := by decide +kernel
theorem dX0_pass_63 : decode cX0_pass 63 = .ok (.iconst 0, 1) := by decide +kernel
theorem dX0_pass_64 : decode cX0_pass 64 = .ok (.iload_n 1, 1) := by decide +kernel
theorem dX0_pass_65 : decode cX0_pass 65 = .ok (.invokevirtual 123, 3) := by decide +kernel
theorem dX0_pass_68 : decode cX0_pass 68 = .ok (.aload_n 0, 1) := by decide +kernel
theorem dX0_pass_69 : decode cX0_pass 69 = .ok (.iconst 1, 1) := by decide +kernel
theorem dX0_pass_70 : decode cX0_pass 70 = .ok (.iload_n 1, 1) := by decide +kernel
theorem dX0_pass_71 : decode cX0_pass 71 = .ok (.invokevirtual 123, 3) := by decide +kernel
theorem dX0_pass_74 : decode cX0_pass 74 = .ok (.aload_n 0, 1) := by decide +kernel
theorem dX0_pass_75 : decode cX0_pass 75 = .ok (.getfield 61, 3) := by decide +kernel
theorem dX0_pass_78 : decode cX0_pass 78 = .ok (.ifCond .ne 28, 3) := by decide +kernel
theorem dX0_pass_81 : decode cX0_pass 81 = .ok (.aload_n 0, 1) := by decide +kernel
theorem dX0_pass_82 : decode cX0_pass 82 = .ok (.getfield 12, 3) := by decide +kernel
theorem dX0_pass_85 : decode cX0_pass 85 = .ok (.getfield 127, 3) := by decide +kernel
theorem dX0_pass_88 : decode cX0_pass 88 = .ok (.aload_n 0, 1) := by decide +kernel
theorem dX0_pass_89 : decode cX0_pass 89 = .ok (.getfield 55, 3) := by decide +kernel
theorem dX0_pass_92 : decode cX0_pass 92 = .ok (.ior, 1) := by decide +kernel
theorem dX0_pass_93 : decode cX0_pass 93 = .ok (.ifCond .eq 13, 3) := by decide +kernel
theorem dX0_pass_96 : decode cX0_pass 96 = .ok (.aload_n 0, 1) := by decide +kernel
theorem dX0_pass_97 : decode cX0_pass 97 = .ok (.dup, 1) := by decide +kernel
theorem dX0_pass_98 : decode cX0_pass 98 = .ok (.getfield 67, 3) := by decide +kernel
theorem dX0_pass_101 : decode cX0_pass 101 = .ok (.iconst 1, 1) := by decide +kernel
theorem dX0_pass_102 : decode cX0_pass 102 = .ok (.iadd, 1) := by decide +kernel
theorem dX0_pass_103 : decode cX0_pass 103 = .ok (.putfield 67, 3) := by decide +kernel
theorem dX0_pass_106 : decode cX0_pass 106 = .ok (.return_, 1) := by decide +kernel
theorem dX0_changeSpeed_0 : decode cX0_changeSpeed 0 = .ok (.aload_n 0, 1) := by decide +kernel
theorem dX0_changeSpeed_1 : decode cX0_changeSpeed 1 = .ok (.getfield 64, 3) := by decide +kernel
theorem dX0_changeSpeed_4 : decode cX0_changeSpeed 4 = .ok (.ifCond .le 19, 3) := by decide +kernel
theorem dX0_changeSpeed_7 : decode cX0_changeSpeed 7 = .ok (.aload_n 0, 1) := by decide +kernel
theorem dX0_changeSpeed_8 : decode cX0_changeSpeed 8 = .ok (.iconst 0, 1) := by decide +kernel
theorem dX0_changeSpeed_9 : decode cX0_changeSpeed 9 = .ok (.putfield 61, 3) := by decide +kernel
theorem dX0_changeSpeed_12 : decode cX0_changeSpeed 12 = .ok (.aload_n 0, 1) := by decide +kernel
theorem dX0_changeSpeed_13 : decode cX0_changeSpeed 13 = .ok (.dup, 1) := by decide +kernel
theorem dX0_changeSpeed_14 : decode cX0_changeSpeed 14 = .ok (.getfield 64, 3) := by decide +kernel
theorem dX0_changeSpeed_17 : decode cX0_changeSpeed 17 = .ok (.iconst 1, 1) := by decide +kernel
theorem dX0_changeSpeed_18 : decode cX0_changeSpeed 18 = .ok (.isub, 1) := by decide +kernel
theorem dX0_changeSpeed_19 : decode cX0_changeSpeed 19 = .ok (.putfield 64, 3) := by decide +kernel
theorem dX0_changeSpeed_22 : decode cX0_changeSpeed 22 = .ok (.return_, 1) := by decide +kernel
theorem dX0_changeSpeed_23 : decode cX0_changeSpeed 23 = .ok (.aload_n 0, 1) := by decide +kernel
theorem dX0_changeSpeed_24 : decode cX0_changeSpeed 24 = .ok (.getfield 58, 3) := by decide +kernel
theorem dX0_changeSpeed_27 : decode cX0_changeSpeed 27 = .ok (.aload_n 0, 1) := by decide +kernel
theorem dX0_changeSpeed_28 : decode cX0_changeSpeed 28 = .ok (.getfield 38, 3) := by decide +kernel
theorem dX0_changeSpeed_31 : decode cX0_changeSpeed 31 = .ok (.getfield 111, 3) := by decide +kernel
theorem dX0_changeSpeed_34 : decode cX0_changeSpeed 34 = .ok (.iconst 3, 1) := by decide +kernel
theorem dX0_changeSpeed_35 : decode cX0_changeSpeed 35 = .ok (.iaload, 1) := by decide +kernel
theorem dX0_changeSpeed_36 : decode cX0_changeSpeed 36 = .ok (.iadd, 1) := by decide +kernel
theorem dX0_changeSpeed_37 : decode cX0_changeSpeed 37 = .ok (.istore_n 1, 1) := by decide +kernel
theorem dX0_changeSpeed_38 : decode cX0_changeSpeed 38 = .ok (.aload_n 0, 1) := by decide +kernel
theorem dX0_changeSpeed_39 : decode cX0_changeSpeed 39 = .ok (.getfield 38, 3) := by decide +kernel
theorem dX0_changeSpeed_42 : decode cX0_changeSpeed 42 = .ok (.getfield 111, 3) := by decide +kernel
theorem dX0_changeSpeed_45 : decode cX0_changeSpeed 45 = .ok (.iconst 4, 1) := by decide +kernel
theorem dX0_changeSpeed_46 : decode cX0_changeSpeed 46 = .ok (.iaload, 1) := by decide +kernel
theorem dX0_changeSpeed_47 : decode cX0_changeSpeed 47 = .ok (.istore_n 2, 1) := by decide +kernel
theorem dX0_changeSpeed_48 : decode cX0_changeSpeed 48 = .ok (.iload_n 1, 1) := by decide +kernel
theorem dX0_changeSpeed_49 : decode cX0_changeSpeed 49 = .ok (.iload_n 2, 1) := by decide +kernel
theorem dX0_changeSpeed_50 : decode cX0_changeSpeed 50 = .ok (.aload_n 0, 1) := by decide +kernel
theorem dX0_changeSpeed_51 : decode cX0_changeSpeed 51 = .ok (.getfield 61, 3) := by decide +kernel
theorem dX0_changeSpeed_54 : decode cX0_changeSpeed 54 = .ok (.iconst 1, 1) := by decide +kernel
theorem dX0_changeSpeed_55 : decode cX0_changeSpeed 55 = .ok (.iadd, 1) := by decide +kernel
theorem dX0_changeSpeed_56 : decode cX0_changeSpeed 56 = .ok (.imul, 1) := by decide +kernel
theorem dX0_changeSpeed_57 : decode cX0_changeSpeed 57 = .ok (.if_icmp .lt 32, 3) := by decide +kernel
theorem dX0_changeSpeed_60 : decode cX0_changeSpeed 60 = .ok (.aload_n 0, 1) := by decide +kernel
theorem dX0_changeSpeed_61 : decode cX0_changeSpeed 61 = .ok (.getfield 61, 3) := by decide +kernel
theorem dX0_changeSpeed_64 : decode cX0_changeSpeed 64 = .ok (.aload_n 0, 1) := by decide +kernel
theorem dX0_changeSpeed_65 : decode cX0_changeSpeed 65 = .ok (.getfield 38, 3) := by decide +kernel
theorem dX0_changeSpeed_68 : decode cX0_changeSpeed 68 = .ok (.getfield 111, 3) := by decide +kernel
theorem dX0_changeSpeed_71 : decode cX0_changeSpeed 71 = .ok (.iconst 5, 1) := by decide +kernel
theorem dX0_changeSpeed_72 : decode cX0_changeSpeed 72 = .ok (.iaload, 1) := by decide +kernel
theorem dX0_changeSpeed_73 : decode cX0_changeSpeed 73 = .ok (.if_icmp .ge 36, 3) := by decide +kernel
theorem dX0_changeSpeed_76 : decode cX0_changeSpeed 76 = .ok (.aload_n 0, 1) := by decide +kernel
theorem dX0_changeSpeed_77 : decode cX0_changeSpeed 77 = .ok (.dup, 1) := by decide +kernel
theorem dX0_changeSpeed_78 : decode cX0_changeSpeed 78 = .ok (.getfield 61, 3) := by decide +kernel
theorem dX0_changeSpeed_81 : decode cX0_changeSpeed 81 = .ok (.iconst 1, 1) := by decide +kernel
theorem dX0_changeSpeed_82 : decode cX0_changeSpeed 82 = .ok (.iadd, 1) := by decide +kernel
theorem dX0_changeSpeed_83 : decode cX0_changeSpeed 83 = .ok (.putfield 61, 3) := by decide +kernel
theorem dX0_changeSpeed_86 : decode cX0_changeSpeed 86 = .ok (.goto 23, 3) := by decide +kernel
theorem dX0_changeSpeed_89 : decode cX0_changeSpeed 89 = .ok (.iload_n 1, 1) := by decide +kernel
theorem dX0_changeSpeed_90 : decode cX0_changeSpeed 90 = .ok (.iload_n 2, 1) := by decide +kernel
theorem dX0_changeSpeed_91 : decode cX0_changeSpeed 91 = .ok (.aload_n 0, 1) := by decide +kernel
theorem dX0_changeSpeed_92 : decode cX0_changeSpeed 92 = .ok (.getfield 61, 3) := by decide +kernel
theorem dX0_changeSpeed_95 : decode cX0_changeSpeed 95 = .ok (.imul, 1) := by decide +kernel
theorem dX0_changeSpeed_96 : decode cX0_changeSpeed 96 = .ok (.if_icmp .ge 13, 3) := by decide +kernel
theorem dX0_changeSpeed_99 : decode cX0_changeSpeed 99 = .ok (.aload_n 0, 1) := by decide +kernel
theorem dX0_changeSpeed_100 : decode cX0_changeSpeed 100 = .ok (.dup, 1) := by decide +kernel
theorem dX0_changeSpeed_101 : decode cX0_changeSpeed 101 = .ok (.getfield 61, 3) := by decide +kernel
theorem dX0_changeSpeed_104 : decode cX0_changeSpeed 104 = .ok (.iconst 1, 1) := by decide +kernel
theorem dX0_changeSpeed_105 : decode cX0_changeSpeed 105 = .ok (.isub, 1) := by decide +kernel
theorem dX0_changeSpeed_106 : decode cX0_changeSpeed 106 = .ok (.putfield 61, 3) := by decide +kernel
theorem dX0_changeSpeed_109 : decode cX0_changeSpeed 109 = .ok (.return_, 1) := by decide +kernel
theorem dX0_step_0 : decode cX0_step 0 = .ok (.aload_n 0, 1) := by decide +kernel
theorem dX0_step_1 : decode cX0_step 1 = .ok (.getfield 12, 3) := by decide +kernel
theorem dX0_step_4 : decode cX0_step 4 = .ok (.iconst 0, 1) := by decide +kernel
theorem dX0_step_5 : decode cX0_step 5 = .ok (.invokevirtual 130, 3) := by decide +kernel
theorem dX0_step_8 : decode cX0_step 8 = .ok (.istore_n 2, 1) := by decide +kernel
theorem dX0_step_9 : decode cX0_step 9 = .ok (.aload_n 0, 1) := by decide +kernel
theorem dX0_step_10 : decode cX0_step 10 = .ok (.getfield 12, 3) := by decide +kernel
theorem dX0_step_13 : decode cX0_step 13 = .ok (.iconst 1, 1) := by decide +kernel
theorem dX0_step_14 : decode cX0_step 14 = .ok (.invokevirtual 130, 3) := by decide +kernel
theorem dX0_step_17 : decode cX0_step 17 = .ok (.istore_n 3, 1) := by decide +kernel
theorem dX0_step_18 : decode cX0_step 18 = .ok (.aload_n 0, 1) := by decide +kernel
theorem dX0_step_19 : decode cX0_step 19 = .ok (.getfield 12, 3) := by decide +kernel
theorem dX0_step_22 : decode cX0_step 22 = .ok (.invokevirtual 134, 3) := by decide +kernel
theorem dX0_step_25 : decode cX0_step 25 = .ok (.aload_n 0, 1) := by decide +kernel
theorem dX0_step_26 : decode cX0_step 26 = .ok (.getfield 12, 3) := by decide +kernel
theorem dX0_step_29 : decode cX0_step 29 = .ok (.getfield 127, 3) := by decide +kernel
theorem dX0_step_32 : decode cX0_step 32 = .ok (.ifCond .eq 39, 3) := by decide +kernel
theorem dX0_step_35 : decode cX0_step 35 = .ok (.aload_n 0, 1) := by decide +kernel
theorem dX0_step_36 : decode cX0_step 36 = .ok (.iconst 0, 1) := by decide +kernel
theorem dX0_step_37 : decode cX0_step 37 = .ok (.aload_n 0, 1) := by decide +kernel
theorem dX0_step_38 : decode cX0_step 38 = .ok (.getfield 12, 3) := by decide +kernel
theorem dX0_step_41 : decode cX0_step 41 = .ok (.iconst 0, 1) := by decide +kernel
theorem dX0_step_42 : decode cX0_step 42 = .ok (.invokevirtual 130, 3) := by decide +kernel
theorem dX0_step_45 : decode cX0_step 45 = .ok (.iload_n 2, 1) := by decide +kernel
theorem dX0_step_46 : decode cX0_step 46 = .ok (.iconst (-1), 1) := by decide +kernel
theorem dX0_step_47 : decode cX0_step 47 = .ok (.ixor, 1) := by decide +kernel
theorem dX0_step_48 : decode cX0_step 48 = .ok (.iand, 1) := by decide +kernel
theorem dX0_step_49 : decode cX0_step 49 = .ok (.iload_n 1, 1) := by decide +kernel
theorem dX0_step_50 : decode cX0_step 50 = .ok (.invokevirtual 137, 3) := by decide +kernel
theorem dX0_step_53 : decode cX0_step 53 = .ok (.aload_n 0, 1) := by decide +kernel
theorem dX0_step_54 : decode cX0_step 54 = .ok (.iconst 1, 1) := by decide +kernel
theorem dX0_step_55 : decode cX0_step 55 = .ok (.aload_n 0, 1) := by decide +kernel
theorem dX0_step_56 : decode cX0_step 56 = .ok (.getfield 12, 3) := by decide +kernel
theorem dX0_step_59 : decode cX0_step 59 = .ok (.iconst 1, 1) := by decide +kernel
theorem dX0_step_60 : decode cX0_step 60 = .ok (.invokevirtual 130, 3) := by decide +kernel
theorem dX0_step_63 : decode cX0_step 63 = .ok (.iload_n 3, 1) := by decide +kernel
theorem dX0_step_64 : decode cX0_step 64 = .ok (.iconst (-1), 1) := by decide +kernel
theorem dX0_step_65 : decode cX0_step 65 = .ok (.ixor, 1) := by decide +kernel
theorem dX0_step_66 : decode cX0_step 66 = .ok (.iand, 1) := by decide +kernel
theorem dX0_step_67 : decode cX0_step 67 = .ok (.iload_n 1, 1) := by decide +kernel
theorem dX0_step_68 : decode cX0_step 68 = .ok (.invokevirtual 137, 3) := by decide +kernel
theorem dX0_step_71 : decode cX0_step 71 = .ok (.aload_n 0, 1) := by decide +kernel
theorem dX0_step_72 : decode cX0_step 72 = .ok (.getfield 12, 3) := by decide +kernel
theorem dX0_step_75 : decode cX0_step 75 = .ok (.iload_n 2, 1) := by decide +kernel
theorem dX0_step_76 : decode cX0_step 76 = .ok (.aload_n 0, 1) := by decide +kernel
theorem dX0_step_77 : decode cX0_step 77 = .ok (.getfield 12, 3) := by decide +kernel
theorem dX0_step_80 : decode cX0_step 80 = .ok (.iconst 0, 1) := by decide +kernel
theorem dX0_step_81 : decode cX0_step 81 = .ok (.invokevirtual 130, 3) := by decide +kernel
theorem dX0_step_84 : decode cX0_step 84 = .ok (.iconst (-1), 1) := by decide +kernel
theorem dX0_step_85 : decode cX0_step 85 = .ok (.ixor, 1) := by decide +kernel
theorem dX0_step_86 : decode cX0_step 86 = .ok (.iand, 1) := by decide +kernel
theorem dX0_step_87 : decode cX0_step 87 = .ok (.invokevirtual 141, 3) := by decide +kernel
theorem dX0_step_90 : decode cX0_step 90 = .ok (.return_, 1) := by decide +kernel
theorem dX0_letOut_0 : decode cX0_letOut 0 = .ok (.iload_n 2, 1) := by decide +kernel
theorem dX0_letOut_1 : decode cX0_letOut 1 = .ok (.ifCond .ne 4, 3) := by decide +kernel
theorem dX0_letOut_4 : decode cX0_letOut 4 = .ok (.return_, 1) := by decide +kernel
theorem dX0_letOut_5 : decode cX0_letOut 5 = .ok (.aload_n 0, 1) := by decide +kernel
theorem dX0_letOut_6 : decode cX0_letOut 6 = .ok (.getfield 12, 3) := by decide +kernel
theorem dX0_letOut_9 : decode cX0_letOut 9 = .ok (.iload_n 2, 1) := by decide +kernel
theorem dX0_letOut_10 : decode cX0_letOut 10 = .ok (.invokevirtual 144, 3) := by decide +kernel
theorem dX0_letOut_13 : decode cX0_letOut 13 = .ok (.aload_n 0, 1) := by decide +kernel
theorem dX0_letOut_14 : decode cX0_letOut 14 = .ok (.getfield 32, 3) := by decide +kernel
theorem dX0_letOut_17 : decode cX0_letOut 17 = .ok (.iconst 1, 1) := by decide +kernel
theorem dX0_letOut_18 : decode cX0_letOut 18 = .ok (.iload_n 1, 1) := by decide +kernel
theorem dX0_letOut_19 : decode cX0_letOut 19 = .ok (.isub, 1) := by decide +kernel
theorem dX0_letOut_20 : decode cX0_letOut 20 = .ok (.iaload, 1) := by decide +kernel
theorem dX0_letOut_21 : decode cX0_letOut 21 = .ok (.iand, 1) := by decide +kernel
theorem dX0_letOut_22 : decode cX0_letOut 22 = .ok (.istore 4, 2) := by decide +kernel
theorem dX0_letOut_24 : decode cX0_letOut 24 = .ok (.iload 4, 2) := by decide +kernel
theorem dX0_letOut_26 : decode cX0_letOut 26 = .ok (.aload_n 0, 1) := by decide +kernel
theorem dX0_letOut_27 : decode cX0_letOut 27 = .ok (.getfield 79, 3) := by decide +kernel
theorem dX0_letOut_30 : decode cX0_letOut 30 = .ok (.iand, 1) := by decide +kernel
theorem dX0_letOut_31 : decode cX0_letOut 31 = .ok (.aload_n 0, 1) := by decide +kernel
theorem dX0_letOut_32 : decode cX0_letOut 32 = .ok (.getfield 52, 3) := by decide +kernel
theorem dX0_letOut_35 : decode cX0_letOut 35 = .ok (.iconst (-1), 1) := by decide +kernel
theorem dX0_letOut_36 : decode cX0_letOut 36 = .ok (.ixor, 1) := by decide +kernel
theorem dX0_letOut_37 : decode cX0_letOut 37 = .ok (.iand, 1) := by decide +kernel
theorem dX0_letOut_38 : decode cX0_letOut 38 = .ok (.istore 5, 2) := by decide +kernel
theorem dX0_letOut_40 : decode cX0_letOut 40 = .ok (.aload_n 0, 1) := by decide +kernel
theorem dX0_letOut_41 : decode cX0_letOut 41 = .ok (.dup, 1) := by decide +kernel
theorem dX0_letOut_42 : decode cX0_letOut 42 = .ok (.getfield 52, 3) := by decide +kernel
theorem dX0_letOut_45 : decode cX0_letOut 45 = .ok (.iload 5, 2) := by decide +kernel
theorem dX0_letOut_47 : decode cX0_letOut 47 = .ok (.ior, 1) := by decide +kernel
theorem dX0_letOut_48 : decode cX0_letOut 48 = .ok (.putfield 52, 3) := by decide +kernel
theorem dX0_letOut_51 : decode cX0_letOut 51 = .ok (.aload_n 0, 1) := by decide +kernel
theorem dX0_letOut_52 : decode cX0_letOut 52 = .ok (.iload 4, 2) := by decide +kernel
theorem dX0_letOut_54 : decode cX0_letOut 54 = .ok (.iload 5, 2) := by decide +kernel
theorem dX0_letOut_56 : decode cX0_letOut 56 = .ok (.iconst (-1), 1) := by decide +kernel
theorem dX0_letOut_57 : decode cX0_letOut 57 = .ok (.ixor, 1) := by decide +kernel
theorem dX0_letOut_58 : decode cX0_letOut 58 = .ok (.iand, 1) := by decide +kernel
theorem dX0_letOut_59 : decode cX0_letOut 59 = .ok (.iload_n 3, 1) := by decide +kernel
theorem dX0_letOut_60 : decode cX0_letOut 60 = .ok (.invokevirtual 147, 3) := by decide +kernel
theorem dX0_letOut_63 : decode cX0_letOut 63 = .ok (.return_, 1) := by decide +kernel
theorem dX0_endInside_0 : decode cX0_endInside 0 = .ok (.iconst 0, 1) := by decide +kernel
theorem dX0_endInside_1 : decode cX0_endInside 1 = .ok (.istore_n 3, 1) := by decide +kernel
theorem dX0_endInside_2 : decode cX0_endInside 2 = .ok (.iload_n 3, 1) := by decide +kernel
theorem dX0_endInside_3 : decode cX0_endInside 3 = .ok (.aload_n 0, 1) := by decide +kernel
theorem dX0_endInside_4 : decode cX0_endInside 4 = .ok (.getfield 38, 3) := by decide +kernel
theorem dX0_endInside_7 : decode cX0_endInside 7 = .ok (.getfield 88, 3) := by decide +kernel
theorem dX0_endInside_10 : decode cX0_endInside 10 = .ok (.if_icmp .ge 65, 3) := by decide +kernel
theorem dX0_endInside_13 : decode cX0_endInside 13 = .ok (.iload_n 1, 1) := by decide +kernel
theorem dX0_endInside_14 : decode cX0_endInside 14 = .ok (.iload_n 3, 1) := by decide +kernel
theorem dX0_endInside_15 : decode cX0_endInside 15 = .ok (.ishr, 1) := by decide +kernel
theorem dX0_endInside_16 : decode cX0_endInside 16 = .ok (.ifCond .eq 59, 3) := by decide +kernel
theorem dX0_endInside_19 : decode cX0_endInside 19 = .ok (.iload_n 1, 1) := by decide +kernel
theorem dX0_endInside_20 : decode cX0_endInside 20 = .ok (.iload_n 3, 1) := by decide +kernel
theorem dX0_endInside_21 : decode cX0_endInside 21 = .ok (.ishr, 1) := by decide +kernel
theorem dX0_endInside_22 : decode cX0_endInside 22 = .ok (.iconst 1, 1) := by decide +kernel
theorem dX0_endInside_23 : decode cX0_endInside 23 = .ok (.iand, 1) := by decide +kernel
theorem dX0_endInside_24 : decode cX0_endInside 24 = .ok (.ifCond .eq 45, 3) := by decide +kernel
theorem dX0_endInside_27 : decode cX0_endInside 27 = .ok (.aload_n 0, 1) := by decide +kernel
theorem dX0_endInside_28 : decode cX0_endInside 28 = .ok (.getfield 12, 3) := by decide +kernel
theorem dX0_endInside_31 : decode cX0_endInside 31 = .ok (.iload_n 3, 1) := by decide +kernel
theorem dX0_endInside_32 : decode cX0_endInside 32 = .ok (.aload_n 0, 1) := by decide +kernel
theorem dX0_endInside_33 : decode cX0_endInside 33 = .ok (.getfield 38, 3) := by decide +kernel
theorem dX0_endInside_36 : decode cX0_endInside 36 = .ok (.iload_n 3, 1) := by decide +kernel
theorem dX0_endInside_37 : decode cX0_endInside 37 = .ok (.invokevirtual 150, 3) := by decide +kernel
theorem dX0_endInside_40 : decode cX0_endInside 40 = .ok (.invokevirtual 153, 3) := by decide +kernel
theorem dX0_endInside_43 : decode cX0_endInside 43 = .ok (.aload_n 0, 1) := by decide +kernel
theorem dX0_endInside_44 : decode cX0_endInside 44 = .ok (.dup, 1) := by decide +kernel
theorem dX0_endInside_45 : decode cX0_endInside 45 = .ok (.getfield 58, 3) := by decide +kernel
theorem dX0_endInside_48 : decode cX0_endInside 48 = .ok (.aload_n 0, 1) := by decide +kernel
theorem dX0_endInside_49 : decode cX0_endInside 49 = .ok (.getfield 38, 3) := by decide +kernel
theorem dX0_endInside_52 : decode cX0_endInside 52 = .ok (.iload_n 3, 1) := by decide +kernel
theorem dX0_endInside_53 : decode cX0_endInside 53 = .ok (.invokevirtual 156, 3) := by decide +kernel
theorem dX0_endInside_56 : decode cX0_endInside 56 = .ok (.isub, 1) := by decide +kernel
theorem dX0_endInside_57 : decode cX0_endInside 57 = .ok (.putfield 58, 3) := by decide +kernel
theorem dX0_endInside_60 : decode cX0_endInside 60 = .ok (.aload_n 0, 1) := by decide +kernel
theorem dX0_endInside_61 : decode cX0_endInside 61 = .ok (.getfield 21, 3) := by decide +kernel
theorem dX0_endInside_64 : decode cX0_endInside 64 = .ok (.iload_n 3, 1) := by decide +kernel
theorem dX0_endInside_65 : decode cX0_endInside 65 = .ok (.iload_n 2, 1) := by decide +kernel
theorem dX0_endInside_66 : decode cX0_endInside 66 = .ok (.invokevirtual 159, 3) := by decide +kernel
theorem dX0_endInside_69 : decode cX0_endInside 69 = .ok (.iinc 3 1, 3) := by decide +kernel
theorem dX0_endInside_72 : decode cX0_endInside 72 = .ok (.goto (-70), 3) := by decide +kernel
theorem dX0_endInside_75 : decode cX0_endInside 75 = .ok (.return_, 1) := by decide +kernel
theorem dX0_stepIn_0 : decode cX0_stepIn 0 = .ok (.aload_n 0, 1) := by decide +kernel
theorem dX0_stepIn_1 : decode cX0_stepIn 1 = .ok (.getfield 55, 3) := by decide +kernel
theorem dX0_stepIn_4 : decode cX0_stepIn 4 = .ok (.aload_n 0, 1) := by decide +kernel
theorem dX0_stepIn_5 : decode cX0_stepIn 5 = .ok (.getfield 32, 3) := by decide +kernel
theorem dX0_stepIn_8 : decode cX0_stepIn 8 = .ok (.iload_n 1, 1) := by decide +kernel
theorem dX0_stepIn_9 : decode cX0_stepIn 9 = .ok (.iaload, 1) := by decide +kernel
theorem dX0_stepIn_10 : decode cX0_stepIn 10 = .ok (.iand, 1) := by decide +kernel
theorem dX0_stepIn_11 : decode cX0_stepIn 11 = .ok (.istore_n 3, 1) := by decide +kernel
theorem dX0_stepIn_12 : decode cX0_stepIn 12 = .ok (.iconst 0, 1) := by decide +kernel
theorem dX0_stepIn_13 : decode cX0_stepIn 13 = .ok (.istore 4, 2) := by decide +kernel
theorem dX0_stepIn_15 : decode cX0_stepIn 15 = .ok (.iload 4, 2) := by decide +kernel
theorem dX0_stepIn_17 : decode cX0_stepIn 17 = .ok (.aload_n 0, 1) := by decide +kernel
theorem dX0_stepIn_18 : decode cX0_stepIn 18 = .ok (.getfield 38, 3) := by decide +kernel
theorem dX0_stepIn_21 : decode cX0_stepIn 21 = .ok (.getfield 88, 3) := by decide +kernel
theorem dX0_stepIn_24 : decode cX0_stepIn 24 = .ok (.if_icmp .ge 64, 3) := by decide +kernel
theorem dX0_stepIn_27 : decode cX0_stepIn 27 = .ok (.iload_n 3, 1) := by decide +kernel
theorem dX0_stepIn_28 : decode cX0_stepIn 28 = .ok (.ifCond .eq 60, 3) := by decide +kernel
theorem dX0_stepIn_31 : decode cX0_stepIn 31 = .ok (.aload_n 0, 1) := by decide +kernel
theorem dX0_stepIn_32 : decode cX0_stepIn 32 = .ok (.getfield 25, 3) := by decide +kernel
theorem dX0_stepIn_35 : decode cX0_stepIn 35 = .ok (.iload 4, 2) := by decide +kernel
theorem dX0_stepIn_37 : decode cX0_stepIn 37 = .ok (.iaload, 1) := by decide +kernel
theorem dX0_stepIn_38 : decode cX0_stepIn 38 = .ok (.istore 5, 2) := by decide +kernel
theorem dX0_stepIn_40 : decode cX0_stepIn 40 = .ok (.iload_n 3, 1) := by decide +kernel
theorem dX0_stepIn_41 : decode cX0_stepIn 41 = .ok (.iload 5, 2) := by decide +kernel
theorem dX0_stepIn_43 : decode cX0_stepIn 43 = .ok (.ishr, 1) := by decide +kernel
theorem dX0_stepIn_44 : decode cX0_stepIn 44 = .ok (.iconst 1, 1) := by decide +kernel
theorem dX0_stepIn_45 : decode cX0_stepIn 45 = .ok (.iand, 1) := by decide +kernel
theorem dX0_stepIn_46 : decode cX0_stepIn 46 = .ok (.ifCond .eq 36, 3) := by decide +kernel
theorem dX0_stepIn_49 : decode cX0_stepIn 49 = .ok (.aload_n 0, 1) := by decide +kernel
theorem dX0_stepIn_50 : decode cX0_stepIn 50 = .ok (.iload 5, 2) := by decide +kernel
theorem dX0_stepIn_52 : decode cX0_stepIn 52 = .ok (.iload_n 1, 1) := by decide +kernel
theorem dX0_stepIn_53 : decode cX0_stepIn 53 = .ok (.invokevirtual 162, 3) := by decide +kernel
theorem dX0_stepIn_56 : decode cX0_stepIn 56 = .ok (.istore 6, 2) := by decide +kernel
theorem dX0_stepIn_58 : decode cX0_stepIn 58 = .ok (.iload 6, 2) := by decide +kernel
theorem dX0_stepIn_60 : decode cX0_stepIn 60 = .ok (.ifCond .ge 4, 3) := by decide +kernel
theorem dX0_stepIn_63 : decode cX0_stepIn 63 = .ok (.return_, 1) := by decide +kernel
theorem dX0_stepIn_64 : decode cX0_stepIn 64 = .ok (.aload_n 0, 1) := by decide +kernel
theorem dX0_stepIn_65 : decode cX0_stepIn 65 = .ok (.iload 5, 2) := by decide +kernel
theorem dX0_stepIn_67 : decode cX0_stepIn 67 = .ok (.iload 6, 2) := by decide +kernel
theorem dX0_stepIn_69 : decode cX0_stepIn 69 = .ok (.iload_n 2, 1) := by decide +kernel
theorem dX0_stepIn_70 : decode cX0_stepIn 70 = .ok (.invokevirtual 166, 3) := by decide +kernel
theorem dX0_stepIn_73 : decode cX0_stepIn 73 = .ok (.iload_n 3, 1) := by decide +kernel
theorem dX0_stepIn_74 : decode cX0_stepIn 74 = .ok (.iconst 1, 1) := by decide +kernel
theorem dX0_stepIn_75 : decode cX0_stepIn 75 = .ok (.iload 5, 2) := by decide +kernel
theorem dX0_stepIn_77 : decode cX0_stepIn 77 = .ok (.ishl, 1) := by decide +kernel
theorem dX0_stepIn_78 : decode cX0_stepIn 78 = .ok (.iconst (-1), 1) := by decide +kernel
theorem dX0_stepIn_79 : decode cX0_stepIn 79 = .ok (.ixor, 1) := by decide +kernel
theorem dX0_stepIn_80 : decode cX0_stepIn 80 = .ok (.iand, 1) := by decide +kernel
theorem dX0_stepIn_81 : decode cX0_stepIn 81 = .ok (.istore_n 3, 1) := by decide +kernel
theorem dX0_stepIn_82 : decode cX0_stepIn 82 = .ok (.iinc 4 1, 3) := by decide +kernel
theorem dX0_stepIn_85 : decode cX0_stepIn 85 = .ok (.goto (-70), 3) := by decide +kernel
theorem dX0_stepIn_88 : decode cX0_stepIn 88 = .ok (.return_, 1) := by decide +kernel
theorem dX0_partFor_0 : decode cX0_partFor 0 = .ok (.aload_n 0, 1) := by decide +kernel
theorem dX0_partFor_1 : decode cX0_partFor 1 = .ok (.getfield 61, 3) := by decide +kernel
theorem dX0_partFor_4 : decode cX0_partFor 4 = .ok (.iconst 2, 1) := by decide +kernel
theorem dX0_partFor_5 : decode cX0_partFor 5 = .ok (.if_icmp .lt 16, 3) := by decide +kernel
theorem dX0_partFor_8 : decode cX0_partFor 8 = .ok (.aload_n 0, 1) := by decide +kernel
theorem dX0_partFor_9 : decode cX0_partFor 9 = .ok (.getfield 38, 3) := by decide +kernel
theorem dX0_partFor_12 : decode cX0_partFor 12 = .ok (.iload_n 1, 1) := by decide +kernel
theorem dX0_partFor_13 : decode cX0_partFor 13 = .ok (.invokevirtual 169, 3) := by decide +kernel
theorem dX0_partFor_16 : decode cX0_partFor 16 = .ok (.ifCond .eq 5, 3) := by decide +kernel
theorem dX0_partFor_19 : decode cX0_partFor 19 = .ok (.iconst (-1), 1) := by decide +kernel
theorem dX0_partFor_20 : decode cX0_partFor 20 = .ok (.ireturn, 1) := by decide +kernel
theorem dX0_partFor_21 : decode cX0_partFor 21 = .ok (.aload_n 0, 1) := by decide +kernel
theorem dX0_partFor_22 : decode cX0_partFor 22 = .ok (.getfield 38, 3) := by decide +kernel
theorem dX0_partFor_25 : decode cX0_partFor 25 = .ok (.iload_n 1, 1) := by decide +kernel
theorem dX0_partFor_26 : decode cX0_partFor 26 = .ok (.invokevirtual 150, 3) := by decide +kernel
theorem dX0_partFor_29 : decode cX0_partFor 29 = .ok (.istore_n 3, 1) := by decide +kernel
theorem dX0_partFor_30 : decode cX0_partFor 30 = .ok (.aload_n 0, 1) := by decide +kernel
theorem dX0_partFor_31 : decode cX0_partFor 31 = .ok (.getfield 38, 3) := by decide +kernel
theorem dX0_partFor_34 : decode cX0_partFor 34 = .ok (.getfield 97, 3) := by decide +kernel
theorem dX0_partFor_37 : decode cX0_partFor 37 = .ok (.iload_n 1, 1) := by decide +kernel
theorem dX0_partFor_38 : decode cX0_partFor 38 = .ok (.iaload, 1) := by decide +kernel
theorem dX0_partFor_39 : decode cX0_partFor 39 = .ok (.iconst 3, 1) := by decide +kernel
theorem dX0_partFor_40 : decode cX0_partFor 40 = .ok (.if_icmp .ne 7, 3) := by decide +kernel
theorem dX0_partFor_43 : decode cX0_partFor 43 = .ok (.iconst 1, 1) := by decide +kernel
theorem dX0_partFor_44 : decode cX0_partFor 44 = .ok (.goto 4, 3) := by decide +kernel
theorem dX0_partFor_47 : decode cX0_partFor 47 = .ok (.iconst 0, 1) := by decide +kernel
theorem dX0_partFor_48 : decode cX0_partFor 48 = .ok (.istore 4, 2) := by decide +kernel
theorem dX0_partFor_50 : decode cX0_partFor 50 = .ok (.iconst (-1), 1) := by decide +kernel
theorem dX0_partFor_51 : decode cX0_partFor 51 = .ok (.istore 5, 2) := by decide +kernel
theorem dX0_partFor_53 : decode cX0_partFor 53 = .ok (.aload_n 0, 1) := by decide +kernel
theorem dX0_partFor_54 : decode cX0_partFor 54 = .ok (.getfield 12, 3) := by decide +kernel
theorem dX0_partFor_57 : decode cX0_partFor 57 = .ok (.getfield 173, 3) := by decide +kernel
theorem dX0_partFor_60 : decode cX0_partFor 60 = .ok (.iconst 1, 1) := by decide +kernel
theorem dX0_partFor_61 : decode cX0_partFor 61 = .ok (.isub, 1) := by decide +kernel
theorem dX0_partFor_62 : decode cX0_partFor 62 = .ok (.istore 6, 2) := by decide +kernel
theorem dX0_partFor_64 : decode cX0_partFor 64 = .ok (.iconst 0, 1) := by decide +kernel
theorem dX0_partFor_65 : decode cX0_partFor 65 = .ok (.istore 7, 2) := by decide +kernel
theorem dX0_partFor_67 : decode cX0_partFor 67 = .ok (.iload 7, 2) := by decide +kernel
theorem dX0_partFor_69 : decode cX0_partFor 69 = .ok (.aload_n 0, 1) := by decide +kernel
theorem dX0_partFor_70 : decode cX0_partFor 70 = .ok (.getfield 12, 3) := by decide +kernel
theorem dX0_partFor_73 : decode cX0_partFor 73 = .ok (.getfield 176, 3) := by decide +kernel
theorem dX0_partFor_76 : decode cX0_partFor 76 = .ok (.if_icmp .ge 81, 3) := by decide +kernel
theorem dX0_partFor_79 : decode cX0_partFor 79 = .ok (.iload 7, 2) := by decide +kernel
theorem dX0_partFor_81 : decode cX0_partFor 81 = .ok (.iconst 4, 1) := by decide +kernel
theorem dX0_partFor_82 : decode cX0_partFor 82 = .ok (.if_icmp .ge 75, 3) := by decide +kernel
theorem dX0_partFor_85 : decode cX0_partFor 85 = .ok (.aload_n 0, 1) := by decide +kernel
theorem dX0_partFor_86 : decode cX0_partFor 86 = .ok (.getfield 12, 3) := by decide +kernel
theorem dX0_partFor_89 : decode cX0_partFor 89 = .ok (.iload 7, 2) := by decide +kernel
theorem dX0_partFor_91 : decode cX0_partFor 91 = .ok (.iload_n 2, 1) := by decide +kernel
theorem dX0_partFor_92 : decode cX0_partFor 92 = .ok (.invokevirtual 179, 3) := by decide +kernel
theorem dX0_partFor_95 : decode cX0_partFor 95 = .ok (.istore 8, 2) := by decide +kernel
theorem dX0_partFor_97 : decode cX0_partFor 97 = .ok (.iload 8, 2) := by decide +kernel
theorem dX0_partFor_99 : decode cX0_partFor 99 = .ok (.iload 6, 2) := by decide +kernel
theorem dX0_partFor_101 : decode cX0_partFor 101 = .ok (.if_icmp .le 50, 3) := by decide +kernel
theorem dX0_partFor_104 : decode cX0_partFor 104 = .ok (.aload_n 0, 1) := by decide +kernel
theorem dX0_partFor_105 : decode cX0_partFor 105 = .ok (.getfield 12, 3) := by decide +kernel
theorem dX0_partFor_108 : decode cX0_partFor 108 = .ok (.getfield 182, 3) := by decide +kernel
theorem dX0_partFor_111 : decode cX0_partFor 111 = .ok (.iload 7, 2) := by decide +kernel
theorem dX0_partFor_113 : decode cX0_partFor 113 = .ok (.iaload, 1) := by decide +kernel
theorem dX0_partFor_114 : decode cX0_partFor 114 = .ok (.iload_n 3, 1) := by decide +kernel
theorem dX0_partFor_115 : decode cX0_partFor 115 = .ok (.if_icmp .lt 36, 3) := by decide +kernel
theorem dX0_partFor_118 : decode cX0_partFor 118 = .ok (.iload 4, 2) := by decide +kernel
theorem dX0_partFor_120 : decode cX0_partFor 120 = .ok (.ifCond .eq 23, 3) := by decide +kernel
theorem dX0_partFor_123 : decode cX0_partFor 123 = .ok (.aload_n 0, 1) := by decide +kernel
theorem dX0_partFor_124 : decode cX0_partFor 124 = .ok (.getfield 12, 3) := by decide +kernel
theorem dX0_partFor_127 : decode cX0_partFor 127 = .ok (.getfield 185, 3) := by decide +kernel
theorem dX0_partFor_130 : decode cX0_partFor 130 = .ok (.iload 7, 2) := by decide +kernel
theorem dX0_partFor_132 : decode cX0_partFor 132 = .ok (.iaload, 1) := by decide +kernel
theorem dX0_partFor_133 : decode cX0_partFor 133 = .ok (.aload_n 0, 1) := by decide +kernel
theorem dX0_partFor_134 : decode cX0_partFor 134 = .ok (.getfield 76, 3) := by decide +kernel
theorem dX0_partFor_137 : decode cX0_partFor 137 = .ok (.iconst (-1), 1) := by decide +kernel
theorem dX0_partFor_138 : decode cX0_partFor 138 = .ok (.ixor, 1) := by decide +kernel
theorem dX0_partFor_139 : decode cX0_partFor 139 = .ok (.iand, 1) := by decide +kernel
theorem dX0_partFor_140 : decode cX0_partFor 140 = .ok (.ifCond .eq 11, 3) := by decide +kernel
theorem dX0_partFor_143 : decode cX0_partFor 143 = .ok (.iload 7, 2) := by decide +kernel
theorem dX0_partFor_145 : decode cX0_partFor 145 = .ok (.istore 5, 2) := by decide +kernel
theorem dX0_partFor_147 : decode cX0_partFor 147 = .ok (.iload 8, 2) := by decide +kernel
theorem dX0_partFor_149 : decode cX0_partFor 149 = .ok (.istore 6, 2) := by decide +kernel
theorem dX0_partFor_151 : decode cX0_partFor 151 = .ok (.iinc 7 1, 3) := by decide +kernel
theorem dX0_partFor_154 : decode cX0_partFor 154 = .ok (.goto (-87), 3) := by decide +kernel
theorem dX0_partFor_157 : decode cX0_partFor 157 = .ok (.iload 5, 2) := by decide +kernel
theorem dX0_partFor_159 : decode cX0_partFor 159 = .ok (.ireturn, 1) := by decide +kernel
theorem dX0_enter_0 : decode cX0_enter 0 = .ok (.aload_n 0, 1) := by decide +kernel
theorem dX0_enter_1 : decode cX0_enter 1 = .ok (.getfield 21, 3) := by decide +kernel
theorem dX0_enter_4 : decode cX0_enter 4 = .ok (.iload_n 1, 1) := by decide +kernel
theorem dX0_enter_5 : decode cX0_enter 5 = .ok (.aload_n 0, 1) := by decide +kernel
theorem dX0_enter_6 : decode cX0_enter 6 = .ok (.getfield 12, 3) := by decide +kernel
theorem dX0_enter_9 : decode cX0_enter 9 = .ok (.getfield 185, 3) := by decide +kernel
theorem dX0_enter_12 : decode cX0_enter 12 = .ok (.iload_n 2, 1) := by decide +kernel
theorem dX0_enter_13 : decode cX0_enter 13 = .ok (.iaload, 1) := by decide +kernel
theorem dX0_enter_14 : decode cX0_enter 14 = .ok (.invokevirtual 188, 3) := by decide +kernel
theorem dX0_enter_17 : decode cX0_enter 17 = .ok (.aload_n 0, 1) := by decide +kernel
theorem dX0_enter_18 : decode cX0_enter 18 = .ok (.getfield 21, 3) := by decide +kernel
theorem dX0_enter_21 : decode cX0_enter 21 = .ok (.getfield 191, 3) := by decide +kernel
theorem dX0_enter_24 : decode cX0_enter 24 = .ok (.iload_n 1, 1) := by decide +kernel
theorem dX0_enter_25 : decode cX0_enter 25 = .ok (.iload_n 3, 1) := by decide +kernel
theorem dX0_enter_26 : decode cX0_enter 26 = .ok (.iastore, 1) := by decide +kernel
theorem dX0_enter_27 : decode cX0_enter 27 = .ok (.aload_n 0, 1) := by decide +kernel
theorem dX0_enter_28 : decode cX0_enter 28 = .ok (.getfield 21, 3) := by decide +kernel
theorem dX0_enter_31 : decode cX0_enter 31 = .ok (.getfield 194, 3) := by decide +kernel
theorem dX0_enter_34 : decode cX0_enter 34 = .ok (.iload_n 1, 1) := by decide +kernel
theorem dX0_enter_35 : decode cX0_enter 35 = .ok (.iload_n 3, 1) := by decide +kernel
theorem dX0_enter_36 : decode cX0_enter 36 = .ok (.iastore, 1) := by decide +kernel
theorem dX0_enter_37 : decode cX0_enter 37 = .ok (.aload_n 0, 1) := by decide +kernel
theorem dX0_enter_38 : decode cX0_enter 38 = .ok (.dup, 1) := by decide +kernel
theorem dX0_enter_39 : decode cX0_enter 39 = .ok (.getfield 55, 3) := by decide +kernel
theorem dX0_enter_42 : decode cX0_enter 42 = .ok (.iconst 1, 1) := by decide +kernel
theorem dX0_enter_43 : decode cX0_enter 43 = .ok (.iload_n 1, 1) := by decide +kernel
theorem dX0_enter_44 : decode cX0_enter 44 = .ok (.ishl, 1) := by decide +kernel
theorem dX0_enter_45 : decode cX0_enter 45 = .ok (.iconst (-1), 1) := by decide +kernel
theorem dX0_enter_46 : decode cX0_enter 46 = .ok (.ixor, 1) := by decide +kernel
theorem dX0_enter_47 : decode cX0_enter 47 = .ok (.iand, 1) := by decide +kernel
theorem dX0_enter_48 : decode cX0_enter 48 = .ok (.putfield 55, 3) := by decide +kernel
theorem dX0_enter_51 : decode cX0_enter 51 = .ok (.aload_n 0, 1) := by decide +kernel
theorem dX0_enter_52 : decode cX0_enter 52 = .ok (.getfield 12, 3) := by decide +kernel
theorem dX0_enter_55 : decode cX0_enter 55 = .ok (.iload_n 1, 1) := by decide +kernel
theorem dX0_enter_56 : decode cX0_enter 56 = .ok (.iload_n 2, 1) := by decide +kernel
theorem dX0_enter_57 : decode cX0_enter 57 = .ok (.aload_n 0, 1) := by decide +kernel
theorem dX0_enter_58 : decode cX0_enter 58 = .ok (.getfield 38, 3) := by decide +kernel
theorem dX0_enter_61 : decode cX0_enter 61 = .ok (.iload_n 1, 1) := by decide +kernel
theorem dX0_enter_62 : decode cX0_enter 62 = .ok (.invokevirtual 150, 3) := by decide +kernel
theorem dX0_enter_65 : decode cX0_enter 65 = .ok (.invokevirtual 197, 3) := by decide +kernel
theorem dX0_enter_68 : decode cX0_enter 68 = .ok (.aload_n 0, 1) := by decide +kernel
theorem dX0_enter_69 : decode cX0_enter 69 = .ok (.dup, 1) := by decide +kernel
theorem dX0_enter_70 : decode cX0_enter 70 = .ok (.getfield 58, 3) := by decide +kernel
theorem dX0_enter_73 : decode cX0_enter 73 = .ok (.aload_n 0, 1) := by decide +kernel
theorem dX0_enter_74 : decode cX0_enter 74 = .ok (.getfield 38, 3) := by decide +kernel
theorem dX0_enter_77 : decode cX0_enter 77 = .ok (.iload_n 1, 1) := by decide +kernel
theorem dX0_enter_78 : decode cX0_enter 78 = .ok (.invokevirtual 156, 3) := by decide +kernel
theorem dX0_enter_81 : decode cX0_enter 81 = .ok (.iadd, 1) := by decide +kernel
theorem dX0_enter_82 : decode cX0_enter 82 = .ok (.putfield 58, 3) := by decide +kernel
theorem dX0_enter_85 : decode cX0_enter 85 = .ok (.aload_n 0, 1) := by decide +kernel
theorem dX0_enter_86 : decode cX0_enter 86 = .ok (.getfield 61, 3) := by decide +kernel
theorem dX0_enter_89 : decode cX0_enter 89 = .ok (.iconst 1, 1) := by decide +kernel
theorem dX0_enter_90 : decode cX0_enter 90 = .ok (.if_icmp .ne 70, 3) := by decide +kernel
theorem dX0_enter_93 : decode cX0_enter 93 = .ok (.aload_n 0, 1) := by decide +kernel
theorem dX0_enter_94 : decode cX0_enter 94 = .ok (.getfield 38, 3) := by decide +kernel
theorem dX0_enter_97 : decode cX0_enter 97 = .ok (.iload_n 1, 1) := by decide +kernel
theorem dX0_enter_98 : decode cX0_enter 98 = .ok (.invokevirtual 169, 3) := by decide +kernel
theorem dX0_enter_101 : decode cX0_enter 101 = .ok (.ifCond .eq 59, 3) := by decide +kernel
theorem dX0_enter_104 : decode cX0_enter 104 = .ok (.aload_n 0, 1) := by decide +kernel
theorem dX0_enter_105 : decode cX0_enter 105 = .ok (.getfield 12, 3) := by decide +kernel
theorem dX0_enter_108 : decode cX0_enter 108 = .ok (.iload_n 2, 1) := by decide +kernel
theorem dX0_enter_109 : decode cX0_enter 109 = .ok (.aload_n 0, 1) := by decide +kernel
theorem dX0_enter_110 : decode cX0_enter 110 = .ok (.getfield 38, 3) := by decide +kernel
theorem dX0_enter_113 : decode cX0_enter 113 = .ok (.getfield 91, 3) := by decide +kernel
theorem dX0_enter_116 : decode cX0_enter 116 = .ok (.iload_n 1, 1) := by decide +kernel
theorem dX0_enter_117 : decode cX0_enter 117 = .ok (.iaload, 1) := by decide +kernel
theorem dX0_enter_118 : decode cX0_enter 118 = .ok (.invokevirtual 179, 3) := by decide +kernel
theorem dX0_enter_121 : decode cX0_enter 121 = .ok (.aload_n 0, 1) := by decide +kernel
theorem dX0_enter_122 : decode cX0_enter 122 = .ok (.getfield 12, 3) := by decide +kernel
theorem dX0_enter_125 : decode cX0_enter 125 = .ok (.getfield 173, 3) := by decide +kernel
theorem dX0_enter_128 : decode cX0_enter 128 = .ok (.if_icmp .ne 32, 3) := by decide +kernel
theorem dX0_enter_131 : decode cX0_enter 131 = .ok (.aload_n 0, 1) := by decide +kernel
theorem dX0_enter_132 : decode cX0_enter 132 = .ok (.getfield 21, 3) := by decide +kernel
theorem dX0_enter_135 : decode cX0_enter 135 = .ok (.dup, 1) := by decide +kernel
theorem dX0_enter_136 : decode cX0_enter 136 = .ok (.getfield 200, 3) := by decide +kernel
theorem dX0_enter_139 : decode cX0_enter 139 = .ok (.iconst 1, 1) := by decide +kernel
theorem dX0_enter_140 : decode cX0_enter 140 = .ok (.iload_n 1, 1) := by decide +kernel
theorem dX0_enter_141 : decode cX0_enter 141 = .ok (.ishl, 1) := by decide +kernel
theorem dX0_enter_142 : decode cX0_enter 142 = .ok (.ior, 1) := by decide +kernel
theorem dX0_enter_143 : decode cX0_enter 143 = .ok (.putfield 200, 3) := by decide +kernel
theorem dX0_enter_146 : decode cX0_enter 146 = .ok (.aload_n 0, 1) := by decide +kernel
theorem dX0_enter_147 : decode cX0_enter 147 = .ok (.aload_n 0, 1) := by decide +kernel
theorem dX0_enter_148 : decode cX0_enter 148 = .ok (.getfield 38, 3) := by decide +kernel
theorem dX0_enter_151 : decode cX0_enter 151 = .ok (.getfield 111, 3) := by decide +kernel
theorem dX0_enter_154 : decode cX0_enter 154 = .ok (.bipush 7, 2) := by decide +kernel
theorem dX0_enter_156 : decode cX0_enter 156 = .ok (.iaload, 1) := by decide +kernel
theorem dX0_enter_157 : decode cX0_enter 157 = .ok (.putfield 64, 3) := by decide +kernel
theorem dX0_enter_160 : decode cX0_enter 160 = .ok (.return_, 1) := by decide +kernel
theorem dX0_passFolded_0 : decode cX0_passFolded 0 = .ok (.aload_n 0, 1) := by decide +kernel
theorem dX0_passFolded_1 : decode cX0_passFolded 1 = .ok (.iconst 0, 1) := by decide +kernel
theorem dX0_passFolded_2 : decode cX0_passFolded 2 = .ok (.putfield 61, 3) := by decide +kernel
theorem dX0_passFolded_5 : decode cX0_passFolded 5 = .ok (.aload_n 0, 1) := by decide +kernel
theorem dX0_passFolded_6 : decode cX0_passFolded 6 = .ok (.iconst 0, 1) := by decide +kernel
theorem dX0_passFolded_7 : decode cX0_passFolded 7 = .ok (.putfield 64, 3) := by decide +kernel
theorem dX0_passFolded_10 : decode cX0_passFolded 10 = .ok (.aload_n 0, 1) := by decide +kernel
theorem dX0_passFolded_11 : decode cX0_passFolded 11 = .ok (.aload_n 0, 1) := by decide +kernel
theorem dX0_passFolded_12 : decode cX0_passFolded 12 = .ok (.getfield 12, 3) := by decide +kernel
theorem dX0_passFolded_15 : decode cX0_passFolded 15 = .ok (.getfield 127, 3) := by decide +kernel
theorem dX0_passFolded_18 : decode cX0_passFolded 18 = .ok (.iload_n 1, 1) := by decide +kernel
theorem dX0_passFolded_19 : decode cX0_passFolded 19 = .ok (.invokevirtual 147, 3) := by decide +kernel
theorem dX0_passFolded_22 : decode cX0_passFolded 22 = .ok (.aload_n 0, 1) := by decide +kernel
theorem dX0_passFolded_23 : decode cX0_passFolded 23 = .ok (.iconst 0, 1) := by decide +kernel
theorem dX0_passFolded_24 : decode cX0_passFolded 24 = .ok (.iload_n 1, 1) := by decide +kernel
theorem dX0_passFolded_25 : decode cX0_passFolded 25 = .ok (.invokevirtual 203, 3) := by decide +kernel
theorem dX0_passFolded_28 : decode cX0_passFolded 28 = .ok (.aload_n 0, 1) := by decide +kernel
theorem dX0_passFolded_29 : decode cX0_passFolded 29 = .ok (.iconst 1, 1) := by decide +kernel
theorem dX0_passFolded_30 : decode cX0_passFolded 30 = .ok (.iload_n 1, 1) := by decide +kernel
theorem dX0_passFolded_31 : decode cX0_passFolded 31 = .ok (.invokevirtual 203, 3) := by decide +kernel
theorem dX0_passFolded_34 : decode cX0_passFolded 34 = .ok (.return_, 1) := by decide +kernel
theorem dX0_walkThrough_0 : decode cX0_walkThrough 0 = .ok (.aload_n 0, 1) := by decide +kernel
theorem dX0_walkThrough_1 : decode cX0_walkThrough 1 = .ok (.getfield 55, 3) := by decide +kernel
theorem dX0_walkThrough_4 : decode cX0_walkThrough 4 = .ok (.aload_n 0, 1) := by decide +kernel
theorem dX0_walkThrough_5 : decode cX0_walkThrough 5 = .ok (.getfield 32, 3) := by decide +kernel
theorem dX0_walkThrough_8 : decode cX0_walkThrough 8 = .ok (.iload_n 1, 1) := by decide +kernel
theorem dX0_walkThrough_9 : decode cX0_walkThrough 9 = .ok (.iaload, 1) := by decide +kernel
theorem dX0_walkThrough_10 : decode cX0_walkThrough 10 = .ok (.iand, 1) := by decide +kernel
theorem dX0_walkThrough_11 : decode cX0_walkThrough 11 = .ok (.istore_n 3, 1) := by decide +kernel
theorem dX0_walkThrough_12 : decode cX0_walkThrough 12 = .ok (.iconst 0, 1) := by decide +kernel
theorem dX0_walkThrough_13 : decode cX0_walkThrough 13 = .ok (.istore 4, 2) := by decide +kernel
theorem dX0_walkThrough_15 : decode cX0_walkThrough 15 = .ok (.iconst 0, 1) := by decide +kernel
theorem dX0_walkThrough_16 : decode cX0_walkThrough 16 = .ok (.istore 5, 2) := by decide +kernel
theorem dX0_walkThrough_18 : decode cX0_walkThrough 18 = .ok (.iload 5, 2) := by decide +kernel
theorem dX0_walkThrough_20 : decode cX0_walkThrough 20 = .ok (.aload_n 0, 1) := by decide +kernel
theorem dX0_walkThrough_21 : decode cX0_walkThrough 21 = .ok (.getfield 38, 3) := by decide +kernel
theorem dX0_walkThrough_24 : decode cX0_walkThrough 24 = .ok (.getfield 88, 3) := by decide +kernel
theorem dX0_walkThrough_27 : decode cX0_walkThrough 27 = .ok (.if_icmp .ge 85, 3) := by decide +kernel
theorem dX0_walkThrough_30 : decode cX0_walkThrough 30 = .ok (.iload 4, 2) := by decide +kernel
theorem dX0_walkThrough_32 : decode cX0_walkThrough 32 = .ok (.iconst 2, 1) := by decide +kernel
theorem dX0_walkThrough_33 : decode cX0_walkThrough 33 = .ok (.if_icmp .ge 79, 3) := by decide +kernel
theorem dX0_walkThrough_36 : decode cX0_walkThrough 36 = .ok (.iload_n 3, 1) := by decide +kernel
theorem dX0_walkThrough_37 : decode cX0_walkThrough 37 = .ok (.ifCond .eq 75, 3) := by decide +kernel
theorem dX0_walkThrough_40 : decode cX0_walkThrough 40 = .ok (.aload_n 0, 1) := by decide +kernel
theorem dX0_walkThrough_41 : decode cX0_walkThrough 41 = .ok (.getfield 25, 3) := by decide +kernel
theorem dX0_walkThrough_44 : decode cX0_walkThrough 44 = .ok (.iload 5, 2) := by decide +kernel
theorem dX0_walkThrough_46 : decode cX0_walkThrough 46 = .ok (.iaload, 1) := by decide +kernel
theorem dX0_walkThrough_47 : decode cX0_walkThrough 47 = .ok (.istore 6, 2) := by decide +kernel
theorem dX0_walkThrough_49 : decode cX0_walkThrough 49 = .ok (.iload_n 3, 1) := by decide +kernel
theorem dX0_walkThrough_50 : decode cX0_walkThrough 50 = .ok (.iload 6, 2) := by decide +kernel
theorem dX0_walkThrough_52 : decode cX0_walkThrough 52 = .ok (.ishr, 1) := by decide +kernel
theorem dX0_walkThrough_53 : decode cX0_walkThrough 53 = .ok (.iconst 1, 1) := by decide +kernel
theorem dX0_walkThrough_54 : decode cX0_walkThrough 54 = .ok (.iand, 1) := by decide +kernel
theorem dX0_walkThrough_55 : decode cX0_walkThrough 55 = .ok (.ifCond .eq 51, 3) := by decide +kernel
theorem dX0_walkThrough_58 : decode cX0_walkThrough 58 = .ok (.iload_n 3, 1) := by decide +kernel
theorem dX0_walkThrough_59 : decode cX0_walkThrough 59 = .ok (.iconst 1, 1) := by decide +kernel
theorem dX0_walkThrough_60 : decode cX0_walkThrough 60 = .ok (.iload 6, 2) := by decide +kernel
theorem dX0_walkThrough_62 : decode cX0_walkThrough 62 = .ok (.ishl, 1) := by decide +kernel
theorem dX0_walkThrough_63 : decode cX0_walkThrough 63 = .ok (.iconst (-1), 1) := by decide +kernel
theorem dX0_walkThrough_64 : decode cX0_walkThrough 64 = .ok (.ixor, 1) := by decide +kernel
theorem dX0_walkThrough_65 : decode cX0_walkThrough 65 = .ok (.iand, 1) := by decide +kernel
theorem dX0_walkThrough_66 : decode cX0_walkThrough 66 = .ok (.istore_n 3, 1) := by decide +kernel
theorem dX0_walkThrough_67 : decode cX0_walkThrough 67 = .ok (.aload_n 0, 1) := by decide +kernel
theorem dX0_walkThrough_68 : decode cX0_walkThrough 68 = .ok (.dup, 1) := by decide +kernel
theorem dX0_walkThrough_69 : decode cX0_walkThrough 69 = .ok (.getfield 55, 3) := by decide +kernel
theorem dX0_walkThrough_72 : decode cX0_walkThrough 72 = .ok (.iconst 1, 1) := by decide +kernel
theorem dX0_walkThrough_73 : decode cX0_walkThrough 73 = .ok (.iload 6, 2) := by decide +kernel
theorem dX0_walkThrough_75 : decode cX0_walkThrough 75 = .ok (.ishl, 1) := by decide +kernel
theorem dX0_walkThrough_76 : decode cX0_walkThrough 76 = .ok (.iconst (-1), 1) := by decide +kernel
theorem dX0_walkThrough_77 : decode cX0_walkThrough 77 = .ok (.ixor, 1) := by decide +kernel
theorem dX0_walkThrough_78 : decode cX0_walkThrough 78 = .ok (.iand, 1) := by decide +kernel
theorem dX0_walkThrough_79 : decode cX0_walkThrough 79 = .ok (.putfield 55, 3) := by decide +kernel
theorem dX0_walkThrough_82 : decode cX0_walkThrough 82 = .ok (.aload_n 0, 1) := by decide +kernel
theorem dX0_walkThrough_83 : decode cX0_walkThrough 83 = .ok (.getfield 21, 3) := by decide +kernel
theorem dX0_walkThrough_86 : decode cX0_walkThrough 86 = .ok (.getfield 194, 3) := by decide +kernel
theorem dX0_walkThrough_89 : decode cX0_walkThrough 89 = .ok (.iload 6, 2) := by decide +kernel
theorem dX0_walkThrough_91 : decode cX0_walkThrough 91 = .ok (.iload_n 2, 1) := by decide +kernel
theorem dX0_walkThrough_92 : decode cX0_walkThrough 92 = .ok (.iastore, 1) := by decide +kernel
theorem dX0_walkThrough_93 : decode cX0_walkThrough 93 = .ok (.aload_n 0, 1) := by decide +kernel
theorem dX0_walkThrough_94 : decode cX0_walkThrough 94 = .ok (.getfield 21, 3) := by decide +kernel
theorem dX0_walkThrough_97 : decode cX0_walkThrough 97 = .ok (.iload 6, 2) := by decide +kernel
theorem dX0_walkThrough_99 : decode cX0_walkThrough 99 = .ok (.iload_n 2, 1) := by decide +kernel
theorem dX0_walkThrough_100 : decode cX0_walkThrough 100 = .ok (.invokevirtual 159, 3) := by decide +kernel
theorem dX0_walkThrough_103 : decode cX0_walkThrough 103 = .ok (.iinc 4 1, 3) := by decide +kernel
theorem dX0_walkThrough_106 : decode cX0_walkThrough 106 = .ok (.iinc 5 1, 3) := by decide +kernel
theorem dX0_walkThrough_109 : decode cX0_walkThrough 109 = .ok (.goto (-91), 3) := by decide +kernel
theorem dX0_walkThrough_112 : decode cX0_walkThrough 112 = .ok (.return_, 1) := by decide +kernel
theorem dX1_init_0 : decode cX1_init 0 = .ok (.aload_n 0, 1) := by decide +kernel
theorem dX1_init_1 : decode cX1_init 1 = .ok (.invokespecial 3, 3) := by decide +kernel
theorem dX1_init_4 : decode cX1_init 4 = .ok (.aload_n 0, 1) := by decide +kernel
theorem dX1_init_5 : decode cX1_init 5 = .ok (.bipush 96, 2) := by decide +kernel
theorem dX1_init_7 : decode cX1_init 7 = .ok (.newarray .int, 2) := by decide +kernel
theorem dX1_init_9 : decode cX1_init 9 = .ok (.putfield 9, 3) := by decide +kernel
theorem dX1_init_12 : decode cX1_init 12 = .ok (.aload_n 0, 1) := by decide +kernel
theorem dX1_init_13 : decode cX1_init 13 = .ok (.bipush 24, 2) := by decide +kernel
theorem dX1_init_15 : decode cX1_init 15 = .ok (.newarray .int, 2) := by decide +kernel
theorem dX1_init_17 : decode cX1_init 17 = .ok (.putfield 15, 3) := by decide +kernel
theorem dX1_init_20 : decode cX1_init 20 = .ok (.aload_n 0, 1) := by decide +kernel
theorem dX1_init_21 : decode cX1_init 21 = .ok (.iconst 4, 1) := by decide +kernel
theorem dX1_init_22 : decode cX1_init 22 = .ok (.newarray .int, 2) := by decide +kernel
theorem dX1_init_24 : decode cX1_init 24 = .ok (.putfield 18, 3) := by decide +kernel
theorem dX1_init_27 : decode cX1_init 27 = .ok (.aload_n 0, 1) := by decide +kernel
theorem dX1_init_28 : decode cX1_init 28 = .ok (.iconst 4, 1) := by decide +kernel
theorem dX1_init_29 : decode cX1_init 29 = .ok (.newarray .int, 2) := by decide +kernel
theorem dX1_init_31 : decode cX1_init 31 = .ok (.putfield 21, 3) := by decide +kernel
theorem dX1_init_34 : decode cX1_init 34 = .ok (.aload_n 0, 1) := by decide +kernel
theorem dX1_init_35 : decode cX1_init 35 = .ok (.bipush 12, 2) := by decide +kernel
theorem dX1_init_37 : decode cX1_init 37 = .ok (.newarray .int, 2) := by decide +kernel
theorem dX1_init_39 : decode cX1_init 39 = .ok (.putfield 24, 3) := by decide +kernel
theorem dX1_init_42 : decode cX1_init 42 = .ok (.return_, 1) := by decide +kernel
theorem dX1_sectorsInMouth_0 : decode cX1_sectorsInMouth 0 = .ok (.iload_n 0, 1) := by decide +kernel
theorem dX1_sectorsInMouth_1 : decode cX1_sectorsInMouth 1 = .ok (.iconst 3, 1) := by decide +kernel
theorem dX1_sectorsInMouth_2 : decode cX1_sectorsInMouth 2 = .ok (.if_icmp .ne 7, 3) := by decide +kernel
theorem dX1_sectorsInMouth_5 : decode cX1_sectorsInMouth 5 = .ok (.iconst 4, 1) := by decide +kernel
theorem dX1_sectorsInMouth_6 : decode cX1_sectorsInMouth 6 = .ok (.goto 4, 3) := by decide +kernel
theorem dX1_sectorsInMouth_9 : decode cX1_sectorsInMouth 9 = .ok (.iconst 3, 1) := by decide +kernel
theorem dX1_sectorsInMouth_10 : decode cX1_sectorsInMouth 10 = .ok (.istore 4, 2) := by decide +kernel
theorem dX1_sectorsInMouth_12 : decode cX1_sectorsInMouth 12 = .ok (.iload_n 3, 1) := by decide +kernel
theorem dX1_sectorsInMouth_13 : decode cX1_sectorsInMouth 13 = .ok (.iload_n 1, 1) := by decide +kernel
theorem dX1_sectorsInMouth_14 : decode cX1_sectorsInMouth 14 = .ok (.iload 4, 2) := by decide +kernel
theorem dX1_sectorsInMouth_16 : decode cX1_sectorsInMouth 16 = .ok (.imul, 1) := by decide +kernel
theorem dX1_sectorsInMouth_17 : decode cX1_sectorsInMouth 17 = .ok (.iadd, 1) := by decide +kernel
theorem dX1_sectorsInMouth_18 : decode cX1_sectorsInMouth 18 = .ok (.iload_n 2, 1) := by decide +kernel
theorem dX1_sectorsInMouth_19 : decode cX1_sectorsInMouth 19 = .ok (.iconst 1, 1) := by decide +kernel
theorem dX1_sectorsInMouth_20 : decode cX1_sectorsInMouth 20 = .ok (.if_icmp .ne 8, 3) := by decide +kernel
theorem dX1_sectorsInMouth_23 : decode cX1_sectorsInMouth 23 = .ok (.bipush 6, 2) := by decide +kernel
theorem dX1_sectorsInMouth_25 : decode cX1_sectorsInMouth 25 = .ok (.goto 4, 3) := by decide +kernel
theorem dX1_sectorsInMouth_28 : decode cX1_sectorsInMouth 28 = .ok (.iconst 0, 1) := by decide +kernel
theorem dX1_sectorsInMouth_29 : decode cX1_sectorsInMouth 29 = .ok (.iadd, 1) := by decide +kernel
theorem dX1_sectorsInMouth_30 : decode cX1_sectorsInMouth 30 = .ok (.istore 5, 2) := by decide +kernel
theorem dX1_sectorsInMouth_32 : decode cX1_sectorsInMouth 32 = .ok (.iconst 0, 1) := by decide +kernel
theorem dX1_sectorsInMouth_33 : decode cX1_sectorsInMouth 33 = .ok (.istore 6, 2) := by decide +kernel
theorem dX1_sectorsInMouth_35 : decode cX1_sectorsInMouth 35 = .ok (.iconst 0, 1) := by decide +kernel
theorem dX1_sectorsInMouth_36 : decode cX1_sectorsInMouth 36 = .ok (.istore 7, 2) := by decide +kernel
theorem dX1_sectorsInMouth_38 : decode cX1_sectorsInMouth 38 = .ok (.iload 7, 2) := by decide +kernel
theorem dX1_sectorsInMouth_40 : decode cX1_sectorsInMouth 40 = .ok (.iload 4, 2) := by decide +kernel
theorem dX1_sectorsInMouth_42 : decode cX1_sectorsInMouth 42 = .ok (.if_icmp .ge 24, 3) := by decide +kernel
theorem dX1_sectorsInMouth_45 : decode cX1_sectorsInMouth 45 = .ok (.iload 5, 2) := by decide +kernel
theorem dX1_sectorsInMouth_47 : decode cX1_sectorsInMouth 47 = .ok (.iload 7, 2) := by decide +kernel
theorem dX1_sectorsInMouth_49 : decode cX1_sectorsInMouth 49 = .ok (.iadd, 1) := by decide +kernel
theorem dX1_sectorsInMouth_50 : decode cX1_sectorsInMouth 50 = .ok (.bipush 12, 2) := by decide +kernel
theorem dX1_sectorsInMouth_52 : decode cX1_sectorsInMouth 52 = .ok (.irem, 1) := by decide +kernel
theorem dX1_sectorsInMouth_53 : decode cX1_sectorsInMouth 53 = .ok (.iconst 3, 1) := by decide +kernel
theorem dX1_sectorsInMouth_54 : decode cX1_sectorsInMouth 54 = .ok (.if_icmp .ge 6, 3) := by decide +kernel
theorem dX1_sectorsInMouth_57 : decode cX1_sectorsInMouth 57 = .ok (.iinc 6 1, 3) := by decide +kernel
theorem dX1_sectorsInMouth_60 : decode cX1_sectorsInMouth 60 = .ok (.iinc 7 1, 3) := by decide +kernel
theorem dX1_sectorsInMouth_63 : decode cX1_sectorsInMouth 63 = .ok (.goto (-25), 3) := by decide +kernel
theorem dX1_sectorsInMouth_66 : decode cX1_sectorsInMouth 66 = .ok (.iload 6, 2) := by decide +kernel
theorem dX1_sectorsInMouth_68 : decode cX1_sectorsInMouth 68 = .ok (.ireturn, 1) := by decide +kernel
theorem dX1_openParts_0 : decode cX1_openParts 0 = .ok (.iconst 0, 1) := by decide +kernel
theorem dX1_openParts_1 : decode cX1_openParts 1 = .ok (.istore 4, 2) := by decide +kernel
theorem dX1_openParts_3 : decode cX1_openParts 3 = .ok (.iconst 0, 1) := by decide +kernel
theorem dX1_openParts_4 : decode cX1_openParts 4 = .ok (.istore 5, 2) := by decide +kernel
theorem dX1_openParts_6 : decode cX1_openParts 6 = .ok (.iload 5, 2) := by decide +kernel
theorem dX1_openParts_8 : decode cX1_openParts 8 = .ok (.iload_n 0, 1) := by decide +kernel
theorem dX1_openParts_9 : decode cX1_openParts 9 = .ok (.if_icmp .ge 30, 3) := by decide +kernel
theorem dX1_openParts_12 : decode cX1_openParts 12 = .ok (.iload_n 0, 1) := by decide +kernel
theorem dX1_openParts_13 : decode cX1_openParts 13 = .ok (.iload 5, 2) := by decide +kernel
theorem dX1_openParts_15 : decode cX1_openParts 15 = .ok (.iload_n 2, 1) := by decide +kernel
theorem dX1_openParts_16 : decode cX1_openParts 16 = .ok (.iload_n 3, 1) := by decide +kernel
theorem dX1_openParts_17 : decode cX1_openParts 17 = .ok (.invokestatic 27, 3) := by decide +kernel
theorem dX1_openParts_20 : decode cX1_openParts 20 = .ok (.iload_n 1, 1) := by decide +kernel
theorem dX1_openParts_21 : decode cX1_openParts 21 = .ok (.if_icmp .lt 12, 3) := by decide +kernel
theorem dX1_openParts_24 : decode cX1_openParts 24 = .ok (.iload 4, 2) := by decide +kernel
theorem dX1_openParts_26 : decode cX1_openParts 26 = .ok (.iconst 1, 1) := by decide +kernel
theorem dX1_openParts_27 : decode cX1_openParts 27 = .ok (.iload 5, 2) := by decide +kernel
theorem dX1_openParts_29 : decode cX1_openParts 29 = .ok (.ishl, 1) := by decide +kernel
theorem dX1_openParts_30 : decode cX1_openParts 30 = .ok (.ior, 1) := by decide +kernel
theorem dX1_openParts_31 : decode cX1_openParts 31 = .ok (.istore 4, 2) := by decide +kernel
theorem dX1_openParts_33 : decode cX1_openParts 33 = .ok (.iinc 5 1, 3) := by decide +kernel
theorem dX1_openParts_36 : decode cX1_openParts 36 = .ok (.goto (-30), 3) := by decide +kernel
theorem dX1_openParts_39 : decode cX1_openParts 39 = .ok (.iload 4, 2) := by decide +kernel
theorem dX1_openParts_41 : decode cX1_openParts 41 = .ok (.ireturn, 1) := by decide +kernel
theorem dX1_begin_0 : decode cX1_begin 0 = .ok (.aload_n 0, 1) := by decide +kernel
theorem dX1_begin_1 : decode cX1_begin 1 = .ok (.getfield 31, 3) := by decide +kernel
theorem dX1_begin_4 : decode cX1_begin 4 = .ok (.aload_n 1, 1) := by decide +kernel
theorem dX1_begin_5 : decode cX1_begin 5 = .ok (.getfield 35, 3) := by decide +kernel
theorem dX1_begin_8 : decode cX1_begin 8 = .ok (.iconst 0, 1) := by decide +kernel
theorem dX1_begin_9 : decode cX1_begin 9 = .ok (.iaload, 1) := by decide +kernel
theorem dX1_begin_10 : decode cX1_begin 10 = .ok (.if_icmp .ne 16, 3) := by decide +kernel
theorem dX1_begin_13 : decode cX1_begin 13 = .ok (.aload_n 0, 1) := by decide +kernel
theorem dX1_begin_14 : decode cX1_begin 14 = .ok (.getfield 40, 3) := by decide +kernel
theorem dX1_begin_17 : decode cX1_begin 17 = .ok (.aload_n 1, 1) := by decide +kernel
theorem dX1_begin_18 : decode cX1_begin 18 = .ok (.getfield 35, 3) := by decide +kernel
theorem dX1_begin_21 : decode cX1_begin 21 = .ok (.iconst 1, 1) := by decide +kernel
theorem dX1_begin_22 : decode cX1_begin 22 = .ok (.iaload, 1) := by decide +kernel
theorem dX1_begin_23 : decode cX1_begin 23 = .ok (.if_icmp .eq 27, 3) := by decide +kernel
theorem dX1_begin_26 : decode cX1_begin 26 = .ok (.aload_n 0, 1) := by decide +kernel
theorem dX1_begin_27 : decode cX1_begin 27 = .ok (.aload_n 1, 1) := by decide +kernel
theorem dX1_begin_28 : decode cX1_begin 28 = .ok (.getfield 35, 3) := by decide +kernel
theorem dX1_begin_31 : decode cX1_begin 31 = .ok (.iconst 0, 1) := by decide +kernel
theorem dX1_begin_32 : decode cX1_begin 32 = .ok (.iaload, 1) := by decide +kernel
theorem dX1_begin_33 : decode cX1_begin 33 = .ok (.putfield 31, 3) := by decide +kernel
theorem dX1_begin_36 : decode cX1_begin 36 = .ok (.aload_n 0, 1) := by decide +kernel
theorem dX1_begin_37 : decode cX1_begin 37 = .ok (.aload_n 1, 1) := by decide +kernel
theorem dX1_begin_38 : decode cX1_begin 38 = .ok (.getfield 35, 3) := by decide +kernel
theorem dX1_begin_41 : decode cX1_begin 41 = .ok (.iconst 1, 1) := by decide +kernel
theorem dX1_begin_42 : decode cX1_begin 42 = .ok (.iaload, 1) := by decide +kernel
theorem dX1_begin_43 : decode cX1_begin 43 = .ok (.putfield 40, 3) := by decide +kernel
theorem dX1_begin_46 : decode cX1_begin 46 = .ok (.aload_n 0, 1) := by decide +kernel
theorem dX1_begin_47 : decode cX1_begin 47 = .ok (.invokevirtual 43, 3) := by decide +kernel
theorem dX1_begin_50 : decode cX1_begin 50 = .ok (.iconst 0, 1) := by decide +kernel
theorem dX1_begin_51 : decode cX1_begin 51 = .ok (.istore_n 2, 1) := by decide +kernel
theorem dX1_begin_52 : decode cX1_begin 52 = .ok (.iload_n 2, 1) := by decide +kernel
theorem dX1_begin_53 : decode cX1_begin 53 = .ok (.iconst 4, 1) := by decide +kernel
theorem dX1_begin_54 : decode cX1_begin 54 = .ok (.if_icmp .ge 28, 3) := by decide +kernel
theorem dX1_begin_57 : decode cX1_begin 57 = .ok (.aload_n 0, 1) := by decide +kernel
theorem dX1_begin_58 : decode cX1_begin 58 = .ok (.getfield 18, 3) := by decide +kernel
theorem dX1_begin_61 : decode cX1_begin 61 = .ok (.iload_n 2, 1) := by decide +kernel
theorem dX1_begin_62 : decode cX1_begin 62 = .ok (.iconst 0, 1) := by decide +kernel
theorem dX1_begin_63 : decode cX1_begin 63 = .ok (.iastore, 1) := by decide +kernel
theorem dX1_begin_64 : decode cX1_begin 64 = .ok (.aload_n 0, 1) := by decide +kernel
theorem dX1_begin_65 : decode cX1_begin 65 = .ok (.getfield 21, 3) := by decide +kernel
theorem dX1_begin_68 : decode cX1_begin 68 = .ok (.iload_n 2, 1) := by decide +kernel
theorem dX1_begin_69 : decode cX1_begin 69 = .ok (.aload_n 1, 1) := by decide +kernel
theorem dX1_begin_70 : decode cX1_begin 70 = .ok (.getfield 35, 3) := by decide +kernel
theorem dX1_begin_73 : decode cX1_begin 73 = .ok (.iconst 2, 1) := by decide +kernel
theorem dX1_begin_74 : decode cX1_begin 74 = .ok (.iaload, 1) := by decide +kernel
theorem dX1_begin_75 : decode cX1_begin 75 = .ok (.iastore, 1) := by decide +kernel
theorem dX1_begin_76 : decode cX1_begin 76 = .ok (.iinc 2 1, 3) := by decide +kernel
theorem dX1_begin_79 : decode cX1_begin 79 = .ok (.goto (-27), 3) := by decide +kernel
theorem dX1_begin_82 : decode cX1_begin 82 = .ok (.aload_n 0, 1) := by decide +kernel
theorem dX1_begin_83 : decode cX1_begin 83 = .ok (.iconst 0, 1) := by decide +kernel
theorem dX1_begin_84 : decode cX1_begin 84 = .ok (.putfield 46, 3) := by decide +kernel
theorem dX1_begin_87 : decode cX1_begin 87 = .ok (.aload_n 0, 1) := by decide +kernel
theorem dX1_begin_88 : decode cX1_begin 88 = .ok (.iconst 0, 1) := by decide +kernel
theorem dX1_begin_89 : decode cX1_begin 89 = .ok (.putfield 49, 3) := by decide +kernel
theorem dX1_begin_92 : decode cX1_begin 92 = .ok (.aload_n 0, 1) := by decide +kernel
theorem dX1_begin_93 : decode cX1_begin 93 = .ok (.iconst 0, 1) := by decide +kernel
theorem dX1_begin_94 : decode cX1_begin 94 = .ok (.putfield 52, 3) := by decide +kernel
theorem dX1_begin_97 : decode cX1_begin 97 = .ok (.aload_n 0, 1) := by decide +kernel
theorem dX1_begin_98 : decode cX1_begin 98 = .ok (.aload_n 1, 1) := by decide +kernel
theorem dX1_begin_99 : decode cX1_begin 99 = .ok (.getfield 35, 3) := by decide +kernel
theorem dX1_begin_102 : decode cX1_begin 102 = .ok (.bipush 6, 2) := by decide +kernel
theorem dX1_begin_104 : decode cX1_begin 104 = .ok (.iaload, 1) := by decide +kernel
theorem dX1_begin_105 : decode cX1_begin 105 = .ok (.putfield 55, 3) := by decide +kernel
theorem dX1_begin_108 : decode cX1_begin 108 = .ok (.aload_n 0, 1) := by decide +kernel
theorem dX1_begin_109 : decode cX1_begin 109 = .ok (.iconst 0, 1) := by decide +kernel
theorem dX1_begin_110 : decode cX1_begin 110 = .ok (.putfield 58, 3) := by decide +kernel
theorem dX1_begin_113 : decode cX1_begin 113 = .ok (.return_, 1) := by decide +kernel
theorem dX1_layOut_0 : decode cX1_layOut 0 = .ok (.iconst 0, 1) := by decide +kernel
theorem dX1_layOut_1 : decode cX1_layOut 1 = .ok (.istore_n 1, 1) := by decide +kernel
theorem dX1_layOut_2 : decode cX1_layOut 2 = .ok (.iload_n 1, 1) := by decide +kernel
theorem dX1_layOut_3 : decode cX1_layOut 3 = .ok (.bipush 24, 2) := by decide +kernel
theorem dX1_layOut_5 : decode cX1_layOut 5 = .ok (.if_icmp .ge 73, 3) := by decide +kernel
theorem dX1_layOut_8 : decode cX1_layOut 8 = .ok (.aload_n 0, 1) := by decide +kernel
theorem dX1_layOut_9 : decode cX1_layOut 9 = .ok (.getfield 15, 3) := by decide +kernel
theorem dX1_layOut_12 : decode cX1_layOut 12 = .ok (.iload_n 1, 1) := by decide +kernel
theorem dX1_layOut_13 : decode cX1_layOut 13 = .ok (.aload_n 0, 1) := by decide +kernel
theorem dX1_layOut_14 : decode cX1_layOut 14 = .ok (.getfield 31, 3) := by decide +kernel
theorem dX1_layOut_17 : decode cX1_layOut 17 = .ok (.aload_n 0, 1) := by decide +kernel
theorem dX1_layOut_18 : decode cX1_layOut 18 = .ok (.getfield 40, 3) := by decide +kernel
theorem dX1_layOut_21 : decode cX1_layOut 21 = .ok (.iload_n 1, 1) := by decide +kernel
theorem dX1_layOut_22 : decode cX1_layOut 22 = .ok (.bipush 12, 2) := by decide +kernel
theorem dX1_layOut_24 : decode cX1_layOut 24 = .ok (.idiv, 1) := by decide +kernel
theorem dX1_layOut_25 : decode cX1_layOut 25 = .ok (.iload_n 1, 1) := by decide +kernel
theorem dX1_layOut_26 : decode cX1_layOut 26 = .ok (.bipush 12, 2) := by decide +kernel
theorem dX1_layOut_28 : decode cX1_layOut 28 = .ok (.irem, 1) := by decide +kernel
theorem dX1_layOut_29 : decode cX1_layOut 29 = .ok (.invokestatic 61, 3) := by decide +kernel
theorem dX1_layOut_32 : decode cX1_layOut 32 = .ok (.iastore, 1) := by decide +kernel
theorem dX1_layOut_33 : decode cX1_layOut 33 = .ok (.iconst 0, 1) := by decide +kernel
theorem dX1_layOut_34 : decode cX1_layOut 34 = .ok (.istore_n 2, 1) := by decide +kernel
theorem dX1_layOut_35 : decode cX1_layOut 35 = .ok (.iload_n 2, 1) := by decide +kernel
theorem dX1_layOut_36 : decode cX1_layOut 36 = .ok (.iconst 4, 1) := by decide +kernel
theorem dX1_layOut_37 : decode cX1_layOut 37 = .ok (.if_icmp .ge 35, 3) := by decide +kernel
theorem dX1_layOut_40 : decode cX1_layOut 40 = .ok (.aload_n 0, 1) := by decide +kernel
theorem dX1_layOut_41 : decode cX1_layOut 41 = .ok (.getfield 9, 3) := by decide +kernel
theorem dX1_layOut_44 : decode cX1_layOut 44 = .ok (.iload_n 1, 1) := by decide +kernel
theorem dX1_layOut_45 : decode cX1_layOut 45 = .ok (.iconst 4, 1) := by decide +kernel
theorem dX1_layOut_46 : decode cX1_layOut 46 = .ok (.imul, 1) := by decide +kernel
theorem dX1_layOut_47 : decode cX1_layOut 47 = .ok (.iload_n 2, 1) := by decide +kernel
theorem dX1_layOut_48 : decode cX1_layOut 48 = .ok (.iadd, 1) := by decide +kernel
theorem dX1_layOut_49 : decode cX1_layOut 49 = .ok (.aload_n 0, 1) := by decide +kernel
theorem dX1_layOut_50 : decode cX1_layOut 50 = .ok (.getfield 31, 3) := by decide +kernel
theorem dX1_layOut_53 : decode cX1_layOut 53 = .ok (.iload_n 2, 1) := by decide +kernel
theorem dX1_layOut_54 : decode cX1_layOut 54 = .ok (.iload_n 1, 1) := by decide +kernel
theorem dX1_layOut_55 : decode cX1_layOut 55 = .ok (.bipush 12, 2) := by decide +kernel
theorem dX1_layOut_57 : decode cX1_layOut 57 = .ok (.idiv, 1) := by decide +kernel
theorem dX1_layOut_58 : decode cX1_layOut 58 = .ok (.iload_n 1, 1) := by decide +kernel
theorem dX1_layOut_59 : decode cX1_layOut 59 = .ok (.bipush 12, 2) := by decide +kernel
theorem dX1_layOut_61 : decode cX1_layOut 61 = .ok (.irem, 1) := by decide +kernel
theorem dX1_layOut_62 : decode cX1_layOut 62 = .ok (.invokestatic 27, 3) := by decide +kernel
theorem dX1_layOut_65 : decode cX1_layOut 65 = .ok (.iastore, 1) := by decide +kernel
theorem dX1_layOut_66 : decode cX1_layOut 66 = .ok (.iinc 2 1, 3) := by decide +kernel
theorem dX1_layOut_69 : decode cX1_layOut 69 = .ok (.goto (-34), 3) := by decide +kernel
theorem dX1_layOut_72 : decode cX1_layOut 72 = .ok (.iinc 1 1, 3) := by decide +kernel
theorem dX1_layOut_75 : decode cX1_layOut 75 = .ok (.goto (-73), 3) := by decide +kernel
theorem dX1_layOut_78 : decode cX1_layOut 78 = .ok (.return_, 1) := by decide +kernel
theorem dX1_openSet_0 : decode cX1_openSet 0 = .ok (.aload_n 0, 1) := by decide +kernel
theorem dX1_openSet_1 : decode cX1_openSet 1 = .ok (.getfield 15, 3) := by decide +kernel
theorem dX1_openSet_4 : decode cX1_openSet 4 = .ok (.iload_n 1, 1) := by decide +kernel
theorem dX1_openSet_5 : decode cX1_openSet 5 = .ok (.bipush 12, 2) := by decide +kernel
theorem dX1_openSet_7 : decode cX1_openSet 7 = .ok (.imul, 1) := by decide +kernel
theorem dX1_openSet_8 : decode cX1_openSet 8 = .ok (.aload_n 0, 1) := by decide +kernel
theorem dX1_openSet_9 : decode cX1_openSet 9 = .ok (.getfield 46, 3) := by decide +kernel
theorem dX1_openSet_12 : decode cX1_openSet 12 = .ok (.iadd, 1) := by decide +kernel
theorem dX1_openSet_13 : decode cX1_openSet 13 = .ok (.iaload, 1) := by decide +kernel
theorem dX1_openSet_14 : decode cX1_openSet 14 = .ok (.ireturn, 1) := by decide +kernel
theorem dX1_shareAt_0 : decode cX1_shareAt 0 = .ok (.aload_n 0, 1) := by decide +kernel
theorem dX1_shareAt_1 : decode cX1_shareAt 1 = .ok (.getfield 9, 3) := by decide +kernel
theorem dX1_shareAt_4 : decode cX1_shareAt 4 = .ok (.iload_n 2, 1) := by decide +kernel
theorem dX1_shareAt_5 : decode cX1_shareAt 5 = .ok (.bipush 12, 2) := by decide +kernel
theorem dX1_shareAt_7 : decode cX1_shareAt 7 = .ok (.imul, 1) := by decide +kernel
theorem dX1_shareAt_8 : decode cX1_shareAt 8 = .ok (.aload_n 0, 1) := by decide +kernel
theorem dX1_shareAt_9 : decode cX1_shareAt 9 = .ok (.getfield 46, 3) := by decide +kernel
theorem dX1_shareAt_12 : decode cX1_shareAt 12 = .ok (.iadd, 1) := by decide +kernel
theorem dX1_shareAt_13 : decode cX1_shareAt 13 = .ok (.iconst 4, 1) := by decide +kernel
theorem dX1_shareAt_14 : decode cX1_shareAt 14 = .ok (.imul, 1) := by decide +kernel
theorem dX1_shareAt_15 : decode cX1_shareAt 15 = .ok (.iload_n 1, 1) := by decide +kernel
theorem dX1_shareAt_16 : decode cX1_shareAt 16 = .ok (.iadd, 1) := by decide +kernel
theorem dX1_shareAt_17 : decode cX1_shareAt 17 = .ok (.iaload, 1) := by decide +kernel
theorem dX1_shareAt_18 : decode cX1_shareAt 18 = .ok (.ireturn, 1) := by decide +kernel
theorem dX1_stepOn_0 : decode cX1_stepOn 0 = .ok (.aload_n 0, 1) := by decide +kernel
theorem dX1_stepOn_1 : decode cX1_stepOn 1 = .ok (.aload_n 0, 1) := by decide +kernel
theorem dX1_stepOn_2 : decode cX1_stepOn 2 = .ok (.getfield 46, 3) := by decide +kernel
theorem dX1_stepOn_5 : decode cX1_stepOn 5 = .ok (.bipush 11, 2) := by decide +kernel
theorem dX1_stepOn_7 : decode cX1_stepOn 7 = .ok (.if_icmp .ne 7, 3) := by decide +kernel
theorem dX1_stepOn_10 : decode cX1_stepOn 10 = .ok (.iconst 0, 1) := by decide +kernel
theorem dX1_stepOn_11 : decode cX1_stepOn 11 = .ok (.goto 9, 3) := by decide +kernel
theorem dX1_stepOn_14 : decode cX1_stepOn 14 = .ok (.aload_n 0, 1) := by decide +kernel
theorem dX1_stepOn_15 : decode cX1_stepOn 15 = .ok (.getfield 46, 3) := by decide +kernel
theorem dX1_stepOn_18 : decode cX1_stepOn 18 = .ok (.iconst 1, 1) := by decide +kernel
theorem dX1_stepOn_19 : decode cX1_stepOn 19 = .ok (.iadd, 1) := by decide +kernel
theorem dX1_stepOn_20 : decode cX1_stepOn 20 = .ok (.putfield 46, 3) := by decide +kernel
theorem dX1_stepOn_23 : decode cX1_stepOn 23 = .ok (.aload_n 0, 1) := by decide +kernel
theorem dX1_stepOn_24 : decode cX1_stepOn 24 = .ok (.dup, 1) := by decide +kernel
theorem dX1_stepOn_25 : decode cX1_stepOn 25 = .ok (.getfield 52, 3) := by decide +kernel
theorem dX1_stepOn_28 : decode cX1_stepOn 28 = .ok (.iconst 1, 1) := by decide +kernel
theorem dX1_stepOn_29 : decode cX1_stepOn 29 = .ok (.iadd, 1) := by decide +kernel
theorem dX1_stepOn_30 : decode cX1_stepOn 30 = .ok (.putfield 52, 3) := by decide +kernel
theorem dX1_stepOn_33 : decode cX1_stepOn 33 = .ok (.return_, 1) := by decide +kernel
theorem dX1_lose_0 : decode cX1_lose 0 = .ok (.iconst 0, 1) := by decide +kernel
theorem dX1_lose_1 : decode cX1_lose 1 = .ok (.istore_n 2, 1) := by decide +kernel
theorem dX1_lose_2 : decode cX1_lose 2 = .ok (.iload_n 2, 1) := by decide +kernel
theorem dX1_lose_3 : decode cX1_lose 3 = .ok (.iconst 4, 1) := by decide +kernel
theorem dX1_lose_4 : decode cX1_lose 4 = .ok (.if_icmp .ge 52, 3) := by decide +kernel
theorem dX1_lose_7 : decode cX1_lose 7 = .ok (.iload_n 1, 1) := by decide +kernel
theorem dX1_lose_8 : decode cX1_lose 8 = .ok (.iload_n 2, 1) := by decide +kernel
theorem dX1_lose_9 : decode cX1_lose 9 = .ok (.ishr, 1) := by decide +kernel
theorem dX1_lose_10 : decode cX1_lose 10 = .ok (.ifCond .eq 46, 3) := by decide +kernel
theorem dX1_lose_13 : decode cX1_lose 13 = .ok (.iload_n 1, 1) := by decide +kernel
theorem dX1_lose_14 : decode cX1_lose 14 = .ok (.iload_n 2, 1) := by decide +kernel
theorem dX1_lose_15 : decode cX1_lose 15 = .ok (.ishr, 1) := by decide +kernel
theorem dX1_lose_16 : decode cX1_lose 16 = .ok (.iconst 1, 1) := by decide +kernel
theorem dX1_lose_17 : decode cX1_lose 17 = .ok (.iand, 1) := by decide +kernel
theorem dX1_lose_18 : decode cX1_lose 18 = .ok (.ifCond .eq 32, 3) := by decide +kernel
theorem dX1_lose_21 : decode cX1_lose 21 = .ok (.aload_n 0, 1) := by decide +kernel
theorem dX1_lose_22 : decode cX1_lose 22 = .ok (.getfield 21, 3) := by decide +kernel
theorem dX1_lose_25 : decode cX1_lose 25 = .ok (.iload_n 2, 1) := by decide +kernel
theorem dX1_lose_26 : decode cX1_lose 26 = .ok (.iaload, 1) := by decide +kernel
theorem dX1_lose_27 : decode cX1_lose 27 = .ok (.ifCond .le 23, 3) := by decide +kernel
theorem dX1_lose_30 : decode cX1_lose 30 = .ok (.aload_n 0, 1) := by decide +kernel
theorem dX1_lose_31 : decode cX1_lose 31 = .ok (.dup, 1) := by decide +kernel
theorem dX1_lose_32 : decode cX1_lose 32 = .ok (.getfield 58, 3) := by decide +kernel
theorem dX1_lose_35 : decode cX1_lose 35 = .ok (.aload_n 0, 1) := by decide +kernel
theorem dX1_lose_36 : decode cX1_lose 36 = .ok (.getfield 55, 3) := by decide +kernel
theorem dX1_lose_39 : decode cX1_lose 39 = .ok (.aload_n 0, 1) := by decide +kernel
theorem dX1_lose_40 : decode cX1_lose 40 = .ok (.getfield 21, 3) := by decide +kernel
theorem dX1_lose_43 : decode cX1_lose 43 = .ok (.iload_n 2, 1) := by decide +kernel
theorem dX1_lose_44 : decode cX1_lose 44 = .ok (.iaload, 1) := by decide +kernel
theorem dX1_lose_45 : decode cX1_lose 45 = .ok (.imul, 1) := by decide +kernel
theorem dX1_lose_46 : decode cX1_lose 46 = .ok (.iadd, 1) := by decide +kernel
theorem dX1_lose_47 : decode cX1_lose 47 = .ok (.putfield 58, 3) := by decide +kernel
theorem dX1_lose_50 : decode cX1_lose 50 = .ok (.iinc 2 1, 3) := by decide +kernel
theorem dX1_lose_53 : decode cX1_lose 53 = .ok (.goto (-51), 3) := by decide +kernel
theorem dX1_lose_56 : decode cX1_lose 56 = .ok (.return_, 1) := by decide +kernel
theorem dX1_holdersOf_0 : decode cX1_holdersOf 0 = .ok (.iconst 0, 1) := by decide +kernel
theorem dX1_holdersOf_1 : decode cX1_holdersOf 1 = .ok (.istore_n 2, 1) := by decide +kernel
theorem dX1_holdersOf_2 : decode cX1_holdersOf 2 = .ok (.iconst 0, 1) := by decide +kernel
theorem dX1_holdersOf_3 : decode cX1_holdersOf 3 = .ok (.istore_n 3, 1) := by decide +kernel
theorem dX1_holdersOf_4 : decode cX1_holdersOf 4 = .ok (.iload_n 3, 1) := by decide +kernel
theorem dX1_holdersOf_5 : decode cX1_holdersOf 5 = .ok (.iconst 4, 1) := by decide +kernel
theorem dX1_holdersOf_6 : decode cX1_holdersOf 6 = .ok (.if_icmp .ge 32, 3) := by decide +kernel
theorem dX1_holdersOf_9 : decode cX1_holdersOf 9 = .ok (.iload_n 1, 1) := by decide +kernel
theorem dX1_holdersOf_10 : decode cX1_holdersOf 10 = .ok (.iload_n 3, 1) := by decide +kernel
theorem dX1_holdersOf_11 : decode cX1_holdersOf 11 = .ok (.ishr, 1) := by decide +kernel
theorem dX1_holdersOf_12 : decode cX1_holdersOf 12 = .ok (.ifCond .eq 26, 3) := by decide +kernel
theorem dX1_holdersOf_15 : decode cX1_holdersOf 15 = .ok (.iload_n 1, 1) := by decide +kernel
theorem dX1_holdersOf_16 : decode cX1_holdersOf 16 = .ok (.iload_n 3, 1) := by decide +kernel
theorem dX1_holdersOf_17 : decode cX1_holdersOf 17 = .ok (.ishr, 1) := by decide +kernel
theorem dX1_holdersOf_18 : decode cX1_holdersOf 18 = .ok (.iconst 1, 1) := by decide +kernel
theorem dX1_holdersOf_19 : decode cX1_holdersOf 19 = .ok (.iand, 1) := by decide +kernel
theorem dX1_holdersOf_20 : decode cX1_holdersOf 20 = .ok (.ifCond .eq 12, 3) := by decide +kernel
theorem dX1_holdersOf_23 : decode cX1_holdersOf 23 = .ok (.iload_n 2, 1) := by decide +kernel
theorem dX1_holdersOf_24 : decode cX1_holdersOf 24 = .ok (.aload_n 0, 1) := by decide +kernel
theorem dX1_holdersOf_25 : decode cX1_holdersOf 25 = .ok (.getfield 18, 3) := by decide +kernel
theorem dX1_holdersOf_28 : decode cX1_holdersOf 28 = .ok (.iload_n 3, 1) := by decide +kernel
theorem dX1_holdersOf_29 : decode cX1_holdersOf 29 = .ok (.iaload, 1) := by decide +kernel
theorem dX1_holdersOf_30 : decode cX1_holdersOf 30 = .ok (.ior, 1) := by decide +kernel
theorem dX1_holdersOf_31 : decode cX1_holdersOf 31 = .ok (.istore_n 2, 1) := by decide +kernel
theorem dX1_holdersOf_32 : decode cX1_holdersOf 32 = .ok (.iinc 3 1, 3) := by decide +kernel
theorem dX1_holdersOf_35 : decode cX1_holdersOf 35 = .ok (.goto (-31), 3) := by decide +kernel
theorem dX1_holdersOf_38 : decode cX1_holdersOf 38 = .ok (.iload_n 2, 1) := by decide +kernel
theorem dX1_holdersOf_39 : decode cX1_holdersOf 39 = .ok (.ireturn, 1) := by decide +kernel
theorem dX1_take_0 : decode cX1_take 0 = .ok (.aload_n 0, 1) := by decide +kernel
theorem dX1_take_1 : decode cX1_take 1 = .ok (.getfield 18, 3) := by decide +kernel
theorem dX1_take_4 : decode cX1_take 4 = .ok (.iload_n 2, 1) := by decide +kernel
theorem dX1_take_5 : decode cX1_take 5 = .ok (.dup2, 1) := by decide +kernel
theorem dX1_take_6 : decode cX1_take 6 = .ok (.iaload, 1) := by decide +kernel
theorem dX1_take_7 : decode cX1_take 7 = .ok (.iconst 1, 1) := by decide +kernel
theorem dX1_take_8 : decode cX1_take 8 = .ok (.iload_n 1, 1) := by decide +kernel
theorem dX1_take_9 : decode cX1_take 9 = .ok (.ishl, 1) := by decide +kernel
theorem dX1_take_10 : decode cX1_take 10 = .ok (.ior, 1) := by decide +kernel
theorem dX1_take_11 : decode cX1_take 11 = .ok (.iastore, 1) := by decide +kernel
theorem dX1_take_12 : decode cX1_take 12 = .ok (.aload_n 0, 1) := by decide +kernel
theorem dX1_take_13 : decode cX1_take 13 = .ok (.getfield 21, 3) := by decide +kernel
theorem dX1_take_16 : decode cX1_take 16 = .ok (.iload_n 2, 1) := by decide +kernel
theorem dX1_take_17 : decode cX1_take 17 = .ok (.dup2, 1) := by decide +kernel
theorem dX1_take_18 : decode cX1_take 18 = .ok (.iaload, 1) := by decide +kernel
theorem dX1_take_19 : decode cX1_take 19 = .ok (.iload_n 3, 1) := by decide +kernel
theorem dX1_take_20 : decode cX1_take 20 = .ok (.isub, 1) := by decide +kernel
theorem dX1_take_21 : decode cX1_take 21 = .ok (.iastore, 1) := by decide +kernel
theorem dX1_take_22 : decode cX1_take 22 = .ok (.aload_n 0, 1) := by decide +kernel
theorem dX1_take_23 : decode cX1_take 23 = .ok (.getfield 24, 3) := by decide +kernel
theorem dX1_take_26 : decode cX1_take 26 = .ok (.iload_n 1, 1) := by decide +kernel
theorem dX1_take_27 : decode cX1_take 27 = .ok (.iload_n 2, 1) := by decide +kernel
theorem dX1_take_28 : decode cX1_take 28 = .ok (.iastore, 1) := by decide +kernel
theorem dX1_take_29 : decode cX1_take 29 = .ok (.aload_n 0, 1) := by decide +kernel
theorem dX1_take_30 : decode cX1_take 30 = .ok (.dup, 1) := by decide +kernel
theorem dX1_take_31 : decode cX1_take 31 = .ok (.getfield 49, 3) := by decide +kernel
theorem dX1_take_34 : decode cX1_take 34 = .ok (.iconst 1, 1) := by decide +kernel
theorem dX1_take_35 : decode cX1_take 35 = .ok (.iload_n 1, 1) := by decide +kernel
theorem dX1_take_36 : decode cX1_take 36 = .ok (.ishl, 1) := by decide +kernel
theorem dX1_take_37 : decode cX1_take 37 = .ok (.ior, 1) := by decide +kernel
theorem dX1_take_38 : decode cX1_take 38 = .ok (.putfield 49, 3) := by decide +kernel
theorem dX1_take_41 : decode cX1_take 41 = .ok (.return_, 1) := by decide +kernel
theorem dX1_release_0 : decode cX1_release 0 = .ok (.aload_n 0, 1) := by decide +kernel
theorem dX1_release_1 : decode cX1_release 1 = .ok (.getfield 24, 3) := by decide +kernel
theorem dX1_release_4 : decode cX1_release 4 = .ok (.iload_n 1, 1) := by decide +kernel
theorem dX1_release_5 : decode cX1_release 5 = .ok (.iaload, 1) := by decide +kernel
theorem dX1_release_6 : decode cX1_release 6 = .ok (.istore_n 3, 1) := by decide +kernel
theorem dX1_release_7 : decode cX1_release 7 = .ok (.aload_n 0, 1) := by decide +kernel
theorem dX1_release_8 : decode cX1_release 8 = .ok (.getfield 18, 3) := by decide +kernel
theorem dX1_release_11 : decode cX1_release 11 = .ok (.iload_n 3, 1) := by decide +kernel
theorem dX1_release_12 : decode cX1_release 12 = .ok (.dup2, 1) := by decide +kernel
theorem dX1_release_13 : decode cX1_release 13 = .ok (.iaload, 1) := by decide +kernel
theorem dX1_release_14 : decode cX1_release 14 = .ok (.iconst 1, 1) := by decide +kernel
theorem dX1_release_15 : decode cX1_release 15 = .ok (.iload_n 1, 1) := by decide +kernel
theorem dX1_release_16 : decode cX1_release 16 = .ok (.ishl, 1) := by decide +kernel
theorem dX1_release_17 : decode cX1_release 17 = .ok (.iconst (-1), 1) := by decide +kernel
theorem dX1_release_18 : decode cX1_release 18 = .ok (.ixor, 1) := by decide +kernel
theorem dX1_release_19 : decode cX1_release 19 = .ok (.iand, 1) := by decide +kernel
theorem dX1_release_20 : decode cX1_release 20 = .ok (.iastore, 1) := by decide +kernel
theorem dX1_release_21 : decode cX1_release 21 = .ok (.aload_n 0, 1) := by decide +kernel
theorem dX1_release_22 : decode cX1_release 22 = .ok (.getfield 21, 3) := by decide +kernel
theorem dX1_release_25 : decode cX1_release 25 = .ok (.iload_n 3, 1) := by decide +kernel
theorem dX1_release_26 : decode cX1_release 26 = .ok (.dup2, 1) := by decide +kernel
theorem dX1_release_27 : decode cX1_release 27 = .ok (.iaload, 1) := by decide +kernel
theorem dX1_release_28 : decode cX1_release 28 = .ok (.iload_n 2, 1) := by decide +kernel
theorem dX1_release_29 : decode cX1_release 29 = .ok (.iadd, 1) := by decide +kernel
theorem dX1_release_30 : decode cX1_release 30 = .ok (.iastore, 1) := by decide +kernel
theorem dX1_release_31 : decode cX1_release 31 = .ok (.aload_n 0, 1) := by decide +kernel
theorem dX1_release_32 : decode cX1_release 32 = .ok (.dup, 1) := by decide +kernel
theorem dX1_release_33 : decode cX1_release 33 = .ok (.getfield 49, 3) := by decide +kernel
theorem dX1_release_36 : decode cX1_release 36 = .ok (.iconst 1, 1) := by decide +kernel
theorem dX1_release_37 : decode cX1_release 37 = .ok (.iload_n 1, 1) := by decide +kernel
theorem dX1_release_38 : decode cX1_release 38 = .ok (.ishl, 1) := by decide +kernel
theorem dX1_release_39 : decode cX1_release 39 = .ok (.iconst (-1), 1) := by decide +kernel
theorem dX1_release_40 : decode cX1_release 40 = .ok (.ixor, 1) := by decide +kernel
theorem dX1_release_41 : decode cX1_release 41 = .ok (.iand, 1) := by decide +kernel
theorem dX1_release_42 : decode cX1_release 42 = .ok (.putfield 49, 3) := by decide +kernel
theorem dX1_release_45 : decode cX1_release 45 = .ok (.return_, 1) := by decide +kernel
theorem dX2_init_0 : decode cX2_init 0 = .ok (.aload_n 0, 1) := by decide +kernel
theorem dX2_init_1 : decode cX2_init 1 = .ok (.invokespecial 3, 3) := by decide +kernel
theorem dX2_init_4 : decode cX2_init 4 = .ok (.aload_n 0, 1) := by decide +kernel
theorem dX2_init_5 : decode cX2_init 5 = .ok (.bipush 12, 2) := by decide +kernel
theorem dX2_init_7 : decode cX2_init 7 = .ok (.newarray .int, 2) := by decide +kernel
theorem dX2_init_9 : decode cX2_init 9 = .ok (.putfield 9, 3) := by decide +kernel
theorem dX2_init_12 : decode cX2_init 12 = .ok (.aload_n 0, 1) := by decide +kernel
theorem dX2_init_13 : decode cX2_init 13 = .ok (.bipush 12, 2) := by decide +kernel
theorem dX2_init_15 : decode cX2_init 15 = .ok (.newarray .int, 2) := by decide +kernel
theorem dX2_init_17 : decode cX2_init 17 = .ok (.putfield 15, 3) := by decide +kernel
theorem dX2_init_20 : decode cX2_init 20 = .ok (.aload_n 0, 1) := by decide +kernel
theorem dX2_init_21 : decode cX2_init 21 = .ok (.bipush 12, 2) := by decide +kernel
theorem dX2_init_23 : decode cX2_init 23 = .ok (.newarray .int, 2) := by decide +kernel
theorem dX2_init_25 : decode cX2_init 25 = .ok (.putfield 18, 3) := by decide +kernel
theorem dX2_init_28 : decode cX2_init 28 = .ok (.aload_n 0, 1) := by decide +kernel
theorem dX2_init_29 : decode cX2_init 29 = .ok (.bipush 12, 2) := by decide +kernel
theorem dX2_init_31 : decode cX2_init 31 = .ok (.newarray .int, 2) := by decide +kernel
theorem dX2_init_33 : decode cX2_init 33 = .ok (.putfield 21, 3) := by decide +kernel
theorem dX2_init_36 : decode cX2_init 36 = .ok (.return_, 1) := by decide +kernel
theorem dX2_begin_0 : decode cX2_begin 0 = .ok (.iconst 0, 1) := by decide +kernel
theorem dX2_begin_1 : decode cX2_begin 1 = .ok (.istore_n 1, 1) := by decide +kernel
theorem dX2_begin_2 : decode cX2_begin 2 = .ok (.iload_n 1, 1) := by decide +kernel
theorem dX2_begin_3 : decode cX2_begin 3 = .ok (.bipush 12, 2) := by decide +kernel
theorem dX2_begin_5 : decode cX2_begin 5 = .ok (.if_icmp .ge 40, 3) := by decide +kernel
theorem dX2_begin_8 : decode cX2_begin 8 = .ok (.aload_n 0, 1) := by decide +kernel
theorem dX2_begin_9 : decode cX2_begin 9 = .ok (.getfield 9, 3) := by decide +kernel
theorem dX2_begin_12 : decode cX2_begin 12 = .ok (.iload_n 1, 1) := by decide +kernel
theorem dX2_begin_13 : decode cX2_begin 13 = .ok (.bipush 120, 2) := by decide +kernel
theorem dX2_begin_15 : decode cX2_begin 15 = .ok (.iastore, 1) := by decide +kernel
theorem dX2_begin_16 : decode cX2_begin 16 = .ok (.aload_n 0, 1) := by decide +kernel
theorem dX2_begin_17 : decode cX2_begin 17 = .ok (.getfield 15, 3) := by decide +kernel
theorem dX2_begin_20 : decode cX2_begin 20 = .ok (.iload_n 1, 1) := by decide +kernel
theorem dX2_begin_21 : decode cX2_begin 21 = .ok (.bipush 120, 2) := by decide +kernel
theorem dX2_begin_23 : decode cX2_begin 23 = .ok (.iastore, 1) := by decide +kernel
theorem dX2_begin_24 : decode cX2_begin 24 = .ok (.aload_n 0, 1) := by decide +kernel
theorem dX2_begin_25 : decode cX2_begin 25 = .ok (.getfield 18, 3) := by decide +kernel
theorem dX2_begin_28 : decode cX2_begin 28 = .ok (.iload_n 1, 1) := by decide +kernel
theorem dX2_begin_29 : decode cX2_begin 29 = .ok (.bipush 120, 2) := by decide +kernel
theorem dX2_begin_31 : decode cX2_begin 31 = .ok (.iastore, 1) := by decide +kernel
theorem dX2_begin_32 : decode cX2_begin 32 = .ok (.aload_n 0, 1) := by decide +kernel
theorem dX2_begin_33 : decode cX2_begin 33 = .ok (.getfield 21, 3) := by decide +kernel
theorem dX2_begin_36 : decode cX2_begin 36 = .ok (.iload_n 1, 1) := by decide +kernel
theorem dX2_begin_37 : decode cX2_begin 37 = .ok (.iconst 0, 1) := by decide +kernel
theorem dX2_begin_38 : decode cX2_begin 38 = .ok (.iastore, 1) := by decide +kernel
theorem dX2_begin_39 : decode cX2_begin 39 = .ok (.iinc 1 1, 3) := by decide +kernel
theorem dX2_begin_42 : decode cX2_begin 42 = .ok (.goto (-40), 3) := by decide +kernel
theorem dX2_begin_45 : decode cX2_begin 45 = .ok (.aload_n 0, 1) := by decide +kernel
theorem dX2_begin_46 : decode cX2_begin 46 = .ok (.iconst 0, 1) := by decide +kernel
theorem dX2_begin_47 : decode cX2_begin 47 = .ok (.putfield 24, 3) := by decide +kernel
theorem dX2_begin_50 : decode cX2_begin 50 = .ok (.aload_n 0, 1) := by decide +kernel
theorem dX2_begin_51 : decode cX2_begin 51 = .ok (.iconst 0, 1) := by decide +kernel
theorem dX2_begin_52 : decode cX2_begin 52 = .ok (.putfield 28, 3) := by decide +kernel
theorem dX2_begin_55 : decode cX2_begin 55 = .ok (.return_, 1) := by decide +kernel
theorem dX2_end_0 : decode cX2_end 0 = .ok (.aload_n 0, 1) := by decide +kernel
theorem dX2_end_1 : decode cX2_end 1 = .ok (.getfield 18, 3) := by decide +kernel
theorem dX2_end_4 : decode cX2_end 4 = .ok (.iload_n 1, 1) := by decide +kernel
theorem dX2_end_5 : decode cX2_end 5 = .ok (.iload_n 2, 1) := by decide +kernel
theorem dX2_end_6 : decode cX2_end 6 = .ok (.iastore, 1) := by decide +kernel
theorem dX2_end_7 : decode cX2_end 7 = .ok (.aload_n 0, 1) := by decide +kernel
theorem dX2_end_8 : decode cX2_end 8 = .ok (.dup, 1) := by decide +kernel
theorem dX2_end_9 : decode cX2_end 9 = .ok (.getfield 24, 3) := by decide +kernel
theorem dX2_end_12 : decode cX2_end 12 = .ok (.iconst 1, 1) := by decide +kernel
theorem dX2_end_13 : decode cX2_end 13 = .ok (.iload_n 1, 1) := by decide +kernel
theorem dX2_end_14 : decode cX2_end 14 = .ok (.ishl, 1) := by decide +kernel
theorem dX2_end_15 : decode cX2_end 15 = .ok (.ior, 1) := by decide +kernel
theorem dX2_end_16 : decode cX2_end 16 = .ok (.putfield 24, 3) := by decide +kernel
theorem dX2_end_19 : decode cX2_end 19 = .ok (.return_, 1) := by decide +kernel
theorem dX2_meet_0 : decode cX2_meet 0 = .ok (.aload_n 0, 1) := by decide +kernel
theorem dX2_meet_1 : decode cX2_meet 1 = .ok (.getfield 21, 3) := by decide +kernel
theorem dX2_meet_4 : decode cX2_meet 4 = .ok (.iload_n 1, 1) := by decide +kernel
theorem dX2_meet_5 : decode cX2_meet 5 = .ok (.dup2, 1) := by decide +kernel
theorem dX2_meet_6 : decode cX2_meet 6 = .ok (.iaload, 1) := by decide +kernel
theorem dX2_meet_7 : decode cX2_meet 7 = .ok (.iload_n 2, 1) := by decide +kernel
theorem dX2_meet_8 : decode cX2_meet 8 = .ok (.ior, 1) := by decide +kernel
theorem dX2_meet_9 : decode cX2_meet 9 = .ok (.iastore, 1) := by decide +kernel
theorem dX2_meet_10 : decode cX2_meet 10 = .ok (.iconst 0, 1) := by decide +kernel
theorem dX2_meet_11 : decode cX2_meet 11 = .ok (.istore_n 3, 1) := by decide +kernel
theorem dX2_meet_12 : decode cX2_meet 12 = .ok (.iload_n 3, 1) := by decide +kernel
theorem dX2_meet_13 : decode cX2_meet 13 = .ok (.bipush 12, 2) := by decide +kernel
theorem dX2_meet_15 : decode cX2_meet 15 = .ok (.if_icmp .ge 35, 3) := by decide +kernel
theorem dX2_meet_18 : decode cX2_meet 18 = .ok (.iload_n 2, 1) := by decide +kernel
theorem dX2_meet_19 : decode cX2_meet 19 = .ok (.iload_n 3, 1) := by decide +kernel
theorem dX2_meet_20 : decode cX2_meet 20 = .ok (.ishr, 1) := by decide +kernel
theorem dX2_meet_21 : decode cX2_meet 21 = .ok (.ifCond .eq 29, 3) := by decide +kernel
theorem dX2_meet_24 : decode cX2_meet 24 = .ok (.iload_n 2, 1) := by decide +kernel
theorem dX2_meet_25 : decode cX2_meet 25 = .ok (.iload_n 3, 1) := by decide +kernel
theorem dX2_meet_26 : decode cX2_meet 26 = .ok (.ishr, 1) := by decide +kernel
theorem dX2_meet_27 : decode cX2_meet 27 = .ok (.iconst 1, 1) := by decide +kernel
theorem dX2_meet_28 : decode cX2_meet 28 = .ok (.iand, 1) := by decide +kernel
theorem dX2_meet_29 : decode cX2_meet 29 = .ok (.ifCond .eq 15, 3) := by decide +kernel
theorem dX2_meet_32 : decode cX2_meet 32 = .ok (.aload_n 0, 1) := by decide +kernel
theorem dX2_meet_33 : decode cX2_meet 33 = .ok (.getfield 21, 3) := by decide +kernel
theorem dX2_meet_36 : decode cX2_meet 36 = .ok (.iload_n 3, 1) := by decide +kernel
theorem dX2_meet_37 : decode cX2_meet 37 = .ok (.dup2, 1) := by decide +kernel
theorem dX2_meet_38 : decode cX2_meet 38 = .ok (.iaload, 1) := by decide +kernel
theorem dX2_meet_39 : decode cX2_meet 39 = .ok (.iconst 1, 1) := by decide +kernel
theorem dX2_meet_40 : decode cX2_meet 40 = .ok (.iload_n 1, 1) := by decide +kernel
theorem dX2_meet_41 : decode cX2_meet 41 = .ok (.ishl, 1) := by decide +kernel
theorem dX2_meet_42 : decode cX2_meet 42 = .ok (.ior, 1) := by decide +kernel
theorem dX2_meet_43 : decode cX2_meet 43 = .ok (.iastore, 1) := by decide +kernel
theorem dX2_meet_44 : decode cX2_meet 44 = .ok (.iinc 3 1, 3) := by decide +kernel
theorem dX2_meet_47 : decode cX2_meet 47 = .ok (.goto (-35), 3) := by decide +kernel
theorem dX2_meet_50 : decode cX2_meet 50 = .ok (.return_, 1) := by decide +kernel
theorem dX2_waitOf_0 : decode cX2_waitOf 0 = .ok (.aload_n 0, 1) := by decide +kernel
theorem dX2_waitOf_1 : decode cX2_waitOf 1 = .ok (.getfield 15, 3) := by decide +kernel
theorem dX2_waitOf_4 : decode cX2_waitOf 4 = .ok (.iload_n 1, 1) := by decide +kernel
theorem dX2_waitOf_5 : decode cX2_waitOf 5 = .ok (.iaload, 1) := by decide +kernel
theorem dX2_waitOf_6 : decode cX2_waitOf 6 = .ok (.aload_n 2, 1) := by decide +kernel
theorem dX2_waitOf_7 : decode cX2_waitOf 7 = .ok (.getfield 31, 3) := by decide +kernel
theorem dX2_waitOf_10 : decode cX2_waitOf 10 = .ok (.iload_n 1, 1) := by decide +kernel
theorem dX2_waitOf_11 : decode cX2_waitOf 11 = .ok (.iaload, 1) := by decide +kernel
theorem dX2_waitOf_12 : decode cX2_waitOf 12 = .ok (.isub, 1) := by decide +kernel
theorem dX2_waitOf_13 : decode cX2_waitOf 13 = .ok (.ireturn, 1) := by decide +kernel
theorem dX2_waitsTogether_0 : decode cX2_waitsTogether 0 = .ok (.iconst 0, 1) := by decide +kernel
theorem dX2_waitsTogether_1 : decode cX2_waitsTogether 1 = .ok (.istore_n 2, 1) := by decide +kernel
theorem dX2_waitsTogether_2 : decode cX2_waitsTogether 2 = .ok (.iconst 0, 1) := by decide +kernel
theorem dX2_waitsTogether_3 : decode cX2_waitsTogether 3 = .ok (.istore_n 3, 1) := by decide +kernel
theorem dX2_waitsTogether_4 : decode cX2_waitsTogether 4 = .ok (.iload_n 3, 1) := by decide +kernel
theorem dX2_waitsTogether_5 : decode cX2_waitsTogether 5 = .ok (.aload_n 1, 1) := by decide +kernel
theorem dX2_waitsTogether_6 : decode cX2_waitsTogether 6 = .ok (.getfield 36, 3) := by decide +kernel
theorem dX2_waitsTogether_9 : decode cX2_waitsTogether 9 = .ok (.if_icmp .ge 18, 3) := by decide +kernel
theorem dX2_waitsTogether_12 : decode cX2_waitsTogether 12 = .ok (.iload_n 2, 1) := by decide +kernel
theorem dX2_waitsTogether_13 : decode cX2_waitsTogether 13 = .ok (.aload_n 0, 1) := by decide +kernel
theorem dX2_waitsTogether_14 : decode cX2_waitsTogether 14 = .ok (.iload_n 3, 1) := by decide +kernel
theorem dX2_waitsTogether_15 : decode cX2_waitsTogether 15 = .ok (.aload_n 1, 1) := by decide +kernel
theorem dX2_waitsTogether_16 : decode cX2_waitsTogether 16 = .ok (.invokevirtual 39, 3) := by decide +kernel
theorem dX2_waitsTogether_19 : decode cX2_waitsTogether 19 = .ok (.iadd, 1) := by decide +kernel
theorem dX2_waitsTogether_20 : decode cX2_waitsTogether 20 = .ok (.istore_n 2, 1) := by decide +kernel
theorem dX2_waitsTogether_21 : decode cX2_waitsTogether 21 = .ok (.iinc 3 1, 3) := by decide +kernel
theorem dX2_waitsTogether_24 : decode cX2_waitsTogether 24 = .ok (.goto (-20), 3) := by decide +kernel
theorem dX2_waitsTogether_27 : decode cX2_waitsTogether 27 = .ok (.iload_n 2, 1) := by decide +kernel
theorem dX2_waitsTogether_28 : decode cX2_waitsTogether 28 = .ok (.ireturn, 1) := by decide +kernel
theorem dX2_lastEnd_0 : decode cX2_lastEnd 0 = .ok (.iconst 0, 1) := by decide +kernel
theorem dX2_lastEnd_1 : decode cX2_lastEnd 1 = .ok (.istore_n 2, 1) := by decide +kernel
theorem dX2_lastEnd_2 : decode cX2_lastEnd 2 = .ok (.iconst 0, 1) := by decide +kernel
theorem dX2_lastEnd_3 : decode cX2_lastEnd 3 = .ok (.istore_n 3, 1) := by decide +kernel
theorem dX2_lastEnd_4 : decode cX2_lastEnd 4 = .ok (.iload_n 3, 1) := by decide +kernel
theorem dX2_lastEnd_5 : decode cX2_lastEnd 5 = .ok (.iload_n 1, 1) := by decide +kernel
theorem dX2_lastEnd_6 : decode cX2_lastEnd 6 = .ok (.if_icmp .ge 26, 3) := by decide +kernel
theorem dX2_lastEnd_9 : decode cX2_lastEnd 9 = .ok (.iload_n 3, 1) := by decide +kernel
theorem dX2_lastEnd_10 : decode cX2_lastEnd 10 = .ok (.bipush 12, 2) := by decide +kernel
theorem dX2_lastEnd_12 : decode cX2_lastEnd 12 = .ok (.if_icmp .ge 20, 3) := by decide +kernel
theorem dX2_lastEnd_15 : decode cX2_lastEnd 15 = .ok (.iload_n 2, 1) := by decide +kernel
theorem dX2_lastEnd_16 : decode cX2_lastEnd 16 = .ok (.aload_n 0, 1) := by decide +kernel
theorem dX2_lastEnd_17 : decode cX2_lastEnd 17 = .ok (.getfield 18, 3) := by decide +kernel
theorem dX2_lastEnd_20 : decode cX2_lastEnd 20 = .ok (.iload_n 3, 1) := by decide +kernel
theorem dX2_lastEnd_21 : decode cX2_lastEnd 21 = .ok (.iaload, 1) := by decide +kernel
theorem dX2_lastEnd_22 : decode cX2_lastEnd 22 = .ok (.invokestatic 43, 3) := by decide +kernel
theorem dX2_lastEnd_25 : decode cX2_lastEnd 25 = .ok (.istore_n 2, 1) := by decide +kernel
theorem dX2_lastEnd_26 : decode cX2_lastEnd 26 = .ok (.iinc 3 1, 3) := by decide +kernel
theorem dX2_lastEnd_29 : decode cX2_lastEnd 29 = .ok (.goto (-25), 3) := by decide +kernel
theorem dX2_lastEnd_32 : decode cX2_lastEnd 32 = .ok (.iload_n 2, 1) := by decide +kernel
theorem dX2_lastEnd_33 : decode cX2_lastEnd 33 = .ok (.ireturn, 1) := by decide +kernel
theorem dX3_init_0 : decode cX3_init 0 = .ok (.aload_n 0, 1) := by decide +kernel
theorem dX3_init_1 : decode cX3_init 1 = .ok (.invokespecial 3, 3) := by decide +kernel
theorem dX3_init_4 : decode cX3_init 4 = .ok (.aload_n 0, 1) := by decide +kernel
theorem dX3_init_5 : decode cX3_init 5 = .ok (.bipush 120, 2) := by decide +kernel
theorem dX3_init_7 : decode cX3_init 7 = .ok (.newarray .int, 2) := by decide +kernel
theorem dX3_init_9 : decode cX3_init 9 = .ok (.putfield 9, 3) := by decide +kernel
theorem dX3_init_12 : decode cX3_init 12 = .ok (.aload_n 0, 1) := by decide +kernel
theorem dX3_init_13 : decode cX3_init 13 = .ok (.bipush 120, 2) := by decide +kernel
theorem dX3_init_15 : decode cX3_init 15 = .ok (.newarray .int, 2) := by decide +kernel
theorem dX3_init_17 : decode cX3_init 17 = .ok (.putfield 15, 3) := by decide +kernel
theorem dX3_init_20 : decode cX3_init 20 = .ok (.aload_n 0, 1) := by decide +kernel
theorem dX3_init_21 : decode cX3_init 21 = .ok (.bipush 120, 2) := by decide +kernel
theorem dX3_init_23 : decode cX3_init 23 = .ok (.newarray .int, 2) := by decide +kernel
theorem dX3_init_25 : decode cX3_init 25 = .ok (.putfield 18, 3) := by decide +kernel
theorem dX3_init_28 : decode cX3_init 28 = .ok (.aload_n 0, 1) := by decide +kernel
theorem dX3_init_29 : decode cX3_init 29 = .ok (.bipush 120, 2) := by decide +kernel
theorem dX3_init_31 : decode cX3_init 31 = .ok (.newarray .int, 2) := by decide +kernel
theorem dX3_init_33 : decode cX3_init 33 = .ok (.putfield 21, 3) := by decide +kernel
theorem dX3_init_36 : decode cX3_init 36 = .ok (.aload_n 0, 1) := by decide +kernel
theorem dX3_init_37 : decode cX3_init 37 = .ok (.sipush 480, 3) := by decide +kernel
theorem dX3_init_40 : decode cX3_init 40 = .ok (.newarray .int, 2) := by decide +kernel
theorem dX3_init_42 : decode cX3_init 42 = .ok (.putfield 24, 3) := by decide +kernel
theorem dX3_init_45 : decode cX3_init 45 = .ok (.return_, 1) := by decide +kernel
theorem dX3_write_0 : decode cX3_write 0 = .ok (.aload_n 0, 1) := by decide +kernel
theorem dX3_write_1 : decode cX3_write 1 = .ok (.getfield 9, 3) := by decide +kernel
theorem dX3_write_4 : decode cX3_write 4 = .ok (.iload_n 1, 1) := by decide +kernel
theorem dX3_write_5 : decode cX3_write 5 = .ok (.aload_n 2, 1) := by decide +kernel
theorem dX3_write_6 : decode cX3_write 6 = .ok (.getfield 27, 3) := by decide +kernel
theorem dX3_write_9 : decode cX3_write 9 = .ok (.getfield 33, 3) := by decide +kernel
theorem dX3_write_12 : decode cX3_write 12 = .ok (.iastore, 1) := by decide +kernel
theorem dX3_write_13 : decode cX3_write 13 = .ok (.aload_n 0, 1) := by decide +kernel
theorem dX3_write_14 : decode cX3_write 14 = .ok (.getfield 15, 3) := by decide +kernel
theorem dX3_write_17 : decode cX3_write 17 = .ok (.iload_n 1, 1) := by decide +kernel
theorem dX3_write_18 : decode cX3_write 18 = .ok (.aload_n 2, 1) := by decide +kernel
theorem dX3_write_19 : decode cX3_write 19 = .ok (.getfield 38, 3) := by decide +kernel
theorem dX3_write_22 : decode cX3_write 22 = .ok (.iastore, 1) := by decide +kernel
theorem dX3_write_23 : decode cX3_write 23 = .ok (.aload_n 0, 1) := by decide +kernel
theorem dX3_write_24 : decode cX3_write 24 = .ok (.getfield 18, 3) := by decide +kernel
theorem dX3_write_27 : decode cX3_write 27 = .ok (.iload_n 1, 1) := by decide +kernel
theorem dX3_write_28 : decode cX3_write 28 = .ok (.aload_n 2, 1) := by decide +kernel
theorem dX3_write_29 : decode cX3_write 29 = .ok (.getfield 40, 3) := by decide +kernel
theorem dX3_write_32 : decode cX3_write 32 = .ok (.iastore, 1) := by decide +kernel
theorem dX3_write_33 : decode cX3_write 33 = .ok (.aload_n 0, 1) := by decide +kernel
theorem dX3_write_34 : decode cX3_write 34 = .ok (.getfield 21, 3) := by decide +kernel
theorem dX3_write_37 : decode cX3_write 37 = .ok (.iload_n 1, 1) := by decide +kernel
theorem dX3_write_38 : decode cX3_write 38 = .ok (.aload_n 2, 1) := by decide +kernel
theorem dX3_write_39 : decode cX3_write 39 = .ok (.getfield 42, 3) := by decide +kernel
theorem dX3_write_42 : decode cX3_write 42 = .ok (.iastore, 1) := by decide +kernel
theorem dX3_write_43 : decode cX3_write 43 = .ok (.iconst 0, 1) := by decide +kernel
theorem dX3_write_44 : decode cX3_write 44 = .ok (.istore_n 3, 1) := by decide +kernel
theorem dX3_write_45 : decode cX3_write 45 = .ok (.iload_n 3, 1) := by decide +kernel
theorem dX3_write_46 : decode cX3_write 46 = .ok (.iconst 4, 1) := by decide +kernel
theorem dX3_write_47 : decode cX3_write 47 = .ok (.if_icmp .ge 28, 3) := by decide +kernel
theorem dX3_write_50 : decode cX3_write 50 = .ok (.aload_n 0, 1) := by decide +kernel
theorem dX3_write_51 : decode cX3_write 51 = .ok (.getfield 24, 3) := by decide +kernel
theorem dX3_write_54 : decode cX3_write 54 = .ok (.iload_n 1, 1) := by decide +kernel
theorem dX3_write_55 : decode cX3_write 55 = .ok (.iconst 4, 1) := by decide +kernel
theorem dX3_write_56 : decode cX3_write 56 = .ok (.imul, 1) := by decide +kernel
theorem dX3_write_57 : decode cX3_write 57 = .ok (.iload_n 3, 1) := by decide +kernel
theorem dX3_write_58 : decode cX3_write 58 = .ok (.iadd, 1) := by decide +kernel
theorem dX3_write_59 : decode cX3_write 59 = .ok (.aload_n 2, 1) := by decide +kernel
theorem dX3_write_60 : decode cX3_write 60 = .ok (.getfield 27, 3) := by decide +kernel
theorem dX3_write_63 : decode cX3_write 63 = .ok (.getfield 44, 3) := by decide +kernel
theorem dX3_write_66 : decode cX3_write 66 = .ok (.iload_n 3, 1) := by decide +kernel
theorem dX3_write_67 : decode cX3_write 67 = .ok (.iaload, 1) := by decide +kernel
theorem dX3_write_68 : decode cX3_write 68 = .ok (.iastore, 1) := by decide +kernel
theorem dX3_write_69 : decode cX3_write 69 = .ok (.iinc 3 1, 3) := by decide +kernel
theorem dX3_write_72 : decode cX3_write 72 = .ok (.goto (-27), 3) := by decide +kernel
theorem dX3_write_75 : decode cX3_write 75 = .ok (.return_, 1) := by decide +kernel
theorem dX3_insideAt_0 : decode cX3_insideAt 0 = .ok (.iconst 0, 1) := by decide +kernel
theorem dX3_insideAt_1 : decode cX3_insideAt 1 = .ok (.istore_n 2, 1) := by decide +kernel
theorem dX3_insideAt_2 : decode cX3_insideAt 2 = .ok (.iconst 0, 1) := by decide +kernel
theorem dX3_insideAt_3 : decode cX3_insideAt 3 = .ok (.istore_n 3, 1) := by decide +kernel
theorem dX3_insideAt_4 : decode cX3_insideAt 4 = .ok (.iload_n 3, 1) := by decide +kernel
theorem dX3_insideAt_5 : decode cX3_insideAt 5 = .ok (.iconst 4, 1) := by decide +kernel
theorem dX3_insideAt_6 : decode cX3_insideAt 6 = .ok (.if_icmp .ge 22, 3) := by decide +kernel
theorem dX3_insideAt_9 : decode cX3_insideAt 9 = .ok (.iload_n 2, 1) := by decide +kernel
theorem dX3_insideAt_10 : decode cX3_insideAt 10 = .ok (.aload_n 0, 1) := by decide +kernel
theorem dX3_insideAt_11 : decode cX3_insideAt 11 = .ok (.getfield 24, 3) := by decide +kernel
theorem dX3_insideAt_14 : decode cX3_insideAt 14 = .ok (.iload_n 1, 1) := by decide +kernel
theorem dX3_insideAt_15 : decode cX3_insideAt 15 = .ok (.iconst 4, 1) := by decide +kernel
theorem dX3_insideAt_16 : decode cX3_insideAt 16 = .ok (.imul, 1) := by decide +kernel
theorem dX3_insideAt_17 : decode cX3_insideAt 17 = .ok (.iload_n 3, 1) := by decide +kernel
theorem dX3_insideAt_18 : decode cX3_insideAt 18 = .ok (.iadd, 1) := by decide +kernel
theorem dX3_insideAt_19 : decode cX3_insideAt 19 = .ok (.iaload, 1) := by decide +kernel
theorem dX3_insideAt_20 : decode cX3_insideAt 20 = .ok (.ior, 1) := by decide +kernel
theorem dX3_insideAt_21 : decode cX3_insideAt 21 = .ok (.istore_n 2, 1) := by decide +kernel
theorem dX3_insideAt_22 : decode cX3_insideAt 22 = .ok (.iinc 3 1, 3) := by decide +kernel
theorem dX3_insideAt_25 : decode cX3_insideAt 25 = .ok (.goto (-21), 3) := by decide +kernel
theorem dX3_insideAt_28 : decode cX3_insideAt 28 = .ok (.iload_n 2, 1) := by decide +kernel
theorem dX3_insideAt_29 : decode cX3_insideAt 29 = .ok (.ireturn, 1) := by decide +kernel
theorem dX4_init_0 : decode cX4_init 0 = .ok (.aload_n 0, 1) := by decide +kernel
theorem dX4_init_1 : decode cX4_init 1 = .ok (.invokespecial 3, 3) := by decide +kernel
theorem dX4_init_4 : decode cX4_init 4 = .ok (.aload_n 0, 1) := by decide +kernel
theorem dX4_init_5 : decode cX4_init 5 = .ok (.bipush 6, 2) := by decide +kernel
theorem dX4_init_7 : decode cX4_init 7 = .ok (.newarray .int, 2) := by decide +kernel
theorem dX4_init_9 : decode cX4_init 9 = .ok (.putfield 9, 3) := by decide +kernel
theorem dX4_init_12 : decode cX4_init 12 = .ok (.aload_n 0, 1) := by decide +kernel
theorem dX4_init_13 : decode cX4_init 13 = .ok (.bipush 6, 2) := by decide +kernel
theorem dX4_init_15 : decode cX4_init 15 = .ok (.newarray .int, 2) := by decide +kernel
theorem dX4_init_17 : decode cX4_init 17 = .ok (.putfield 15, 3) := by decide +kernel
theorem dX4_init_20 : decode cX4_init 20 = .ok (.aload_n 0, 1) := by decide +kernel
theorem dX4_init_21 : decode cX4_init 21 = .ok (.bipush 6, 2) := by decide +kernel
theorem dX4_init_23 : decode cX4_init 23 = .ok (.newarray .int, 2) := by decide +kernel
theorem dX4_init_25 : decode cX4_init 25 = .ok (.putfield 18, 3) := by decide +kernel
theorem dX4_init_28 : decode cX4_init 28 = .ok (.return_, 1) := by decide +kernel
theorem dX4_begin_0 : decode cX4_begin 0 = .ok (.aload_n 0, 1) := by decide +kernel
theorem dX4_begin_1 : decode cX4_begin 1 = .ok (.iload_n 2, 1) := by decide +kernel
theorem dX4_begin_2 : decode cX4_begin 2 = .ok (.putfield 21, 3) := by decide +kernel
theorem dX4_begin_5 : decode cX4_begin 5 = .ok (.aload_n 0, 1) := by decide +kernel
theorem dX4_begin_6 : decode cX4_begin 6 = .ok (.bipush 120, 2) := by decide +kernel
theorem dX4_begin_8 : decode cX4_begin 8 = .ok (.putfield 25, 3) := by decide +kernel
theorem dX4_begin_11 : decode cX4_begin 11 = .ok (.aload_n 0, 1) := by decide +kernel
theorem dX4_begin_12 : decode cX4_begin 12 = .ok (.ldc 30, 2) := by decide +kernel
theorem dX4_begin_14 : decode cX4_begin 14 = .ok (.putfield 31, 3) := by decide +kernel
theorem dX4_begin_17 : decode cX4_begin 17 = .ok (.aload_n 0, 1) := by decide +kernel
theorem dX4_begin_18 : decode cX4_begin 18 = .ok (.iconst 0, 1) := by decide +kernel
theorem dX4_begin_19 : decode cX4_begin 19 = .ok (.putfield 34, 3) := by decide +kernel
theorem dX4_begin_22 : decode cX4_begin 22 = .ok (.iconst 0, 1) := by decide +kernel
theorem dX4_begin_23 : decode cX4_begin 23 = .ok (.istore_n 3, 1) := by decide +kernel
theorem dX4_begin_24 : decode cX4_begin 24 = .ok (.iload_n 3, 1) := by decide +kernel
theorem dX4_begin_25 : decode cX4_begin 25 = .ok (.aload_n 1, 1) := by decide +kernel
theorem dX4_begin_26 : decode cX4_begin 26 = .ok (.getfield 37, 3) := by decide +kernel
theorem dX4_begin_29 : decode cX4_begin 29 = .ok (.if_icmp .ge 60, 3) := by decide +kernel
theorem dX4_begin_32 : decode cX4_begin 32 = .ok (.aload_n 0, 1) := by decide +kernel
theorem dX4_begin_33 : decode cX4_begin 33 = .ok (.getfield 34, 3) := by decide +kernel
theorem dX4_begin_36 : decode cX4_begin 36 = .ok (.bipush 6, 2) := by decide +kernel
theorem dX4_begin_38 : decode cX4_begin 38 = .ok (.if_icmp .ge 51, 3) := by decide +kernel
theorem dX4_begin_41 : decode cX4_begin 41 = .ok (.iload_n 2, 1) := by decide +kernel
theorem dX4_begin_42 : decode cX4_begin 42 = .ok (.iload_n 3, 1) := by decide +kernel
theorem dX4_begin_43 : decode cX4_begin 43 = .ok (.ishr, 1) := by decide +kernel
theorem dX4_begin_44 : decode cX4_begin 44 = .ok (.iconst 1, 1) := by decide +kernel
theorem dX4_begin_45 : decode cX4_begin 45 = .ok (.iand, 1) := by decide +kernel
theorem dX4_begin_46 : decode cX4_begin 46 = .ok (.ifCond .eq 37, 3) := by decide +kernel
theorem dX4_begin_49 : decode cX4_begin 49 = .ok (.aload_n 0, 1) := by decide +kernel
theorem dX4_begin_50 : decode cX4_begin 50 = .ok (.getfield 9, 3) := by decide +kernel
theorem dX4_begin_53 : decode cX4_begin 53 = .ok (.aload_n 0, 1) := by decide +kernel
theorem dX4_begin_54 : decode cX4_begin 54 = .ok (.getfield 34, 3) := by decide +kernel
theorem dX4_begin_57 : decode cX4_begin 57 = .ok (.iload_n 3, 1) := by decide +kernel
theorem dX4_begin_58 : decode cX4_begin 58 = .ok (.iastore, 1) := by decide +kernel
theorem dX4_begin_59 : decode cX4_begin 59 = .ok (.aload_n 0, 1) := by decide +kernel
theorem dX4_begin_60 : decode cX4_begin 60 = .ok (.aload_n 1, 1) := by decide +kernel
theorem dX4_begin_61 : decode cX4_begin 61 = .ok (.getfield 42, 3) := by decide +kernel
theorem dX4_begin_64 : decode cX4_begin 64 = .ok (.iload_n 3, 1) := by decide +kernel
theorem dX4_begin_65 : decode cX4_begin 65 = .ok (.iaload, 1) := by decide +kernel
theorem dX4_begin_66 : decode cX4_begin 66 = .ok (.aload_n 0, 1) := by decide +kernel
theorem dX4_begin_67 : decode cX4_begin 67 = .ok (.getfield 34, 3) := by decide +kernel
theorem dX4_begin_70 : decode cX4_begin 70 = .ok (.invokevirtual 43, 3) := by decide +kernel
theorem dX4_begin_73 : decode cX4_begin 73 = .ok (.aload_n 0, 1) := by decide +kernel
theorem dX4_begin_74 : decode cX4_begin 74 = .ok (.dup, 1) := by decide +kernel
theorem dX4_begin_75 : decode cX4_begin 75 = .ok (.getfield 34, 3) := by decide +kernel
theorem dX4_begin_78 : decode cX4_begin 78 = .ok (.iconst 1, 1) := by decide +kernel
theorem dX4_begin_79 : decode cX4_begin 79 = .ok (.iadd, 1) := by decide +kernel
theorem dX4_begin_80 : decode cX4_begin 80 = .ok (.putfield 34, 3) := by decide +kernel
theorem dX4_begin_83 : decode cX4_begin 83 = .ok (.iinc 3 1, 3) := by decide +kernel
theorem dX4_begin_86 : decode cX4_begin 86 = .ok (.goto (-62), 3) := by decide +kernel
theorem dX4_begin_89 : decode cX4_begin 89 = .ok (.return_, 1) := by decide +kernel
theorem dX4_insertTick_0 : decode cX4_insertTick 0 = .ok (.iload_n 2, 1) := by decide +kernel
theorem dX4_insertTick_1 : decode cX4_insertTick 1 = .ok (.istore_n 3, 1) := by decide +kernel
theorem dX4_insertTick_2 : decode cX4_insertTick 2 = .ok (.iload_n 3, 1) := by decide +kernel
theorem dX4_insertTick_3 : decode cX4_insertTick 3 = .ok (.ifCond .le 35, 3) := by decide +kernel
theorem dX4_insertTick_6 : decode cX4_insertTick 6 = .ok (.aload_n 0, 1) := by decide +kernel
theorem dX4_insertTick_7 : decode cX4_insertTick 7 = .ok (.getfield 18, 3) := by decide +kernel
theorem dX4_insertTick_10 : decode cX4_insertTick 10 = .ok (.iload_n 3, 1) := by decide +kernel
theorem dX4_insertTick_11 : decode cX4_insertTick 11 = .ok (.iconst 1, 1) := by decide +kernel
theorem dX4_insertTick_12 : decode cX4_insertTick 12 = .ok (.isub, 1) := by decide +kernel
theorem dX4_insertTick_13 : decode cX4_insertTick 13 = .ok (.iaload, 1) := by decide +kernel
theorem dX4_insertTick_14 : decode cX4_insertTick 14 = .ok (.iload_n 1, 1) := by decide +kernel
theorem dX4_insertTick_15 : decode cX4_insertTick 15 = .ok (.if_icmp .le 23, 3) := by decide +kernel
theorem dX4_insertTick_18 : decode cX4_insertTick 18 = .ok (.aload_n 0, 1) := by decide +kernel
theorem dX4_insertTick_19 : decode cX4_insertTick 19 = .ok (.getfield 18, 3) := by decide +kernel
theorem dX4_insertTick_22 : decode cX4_insertTick 22 = .ok (.iload_n 3, 1) := by decide +kernel
theorem dX4_insertTick_23 : decode cX4_insertTick 23 = .ok (.aload_n 0, 1) := by decide +kernel
theorem dX4_insertTick_24 : decode cX4_insertTick 24 = .ok (.getfield 18, 3) := by decide +kernel
theorem dX4_insertTick_27 : decode cX4_insertTick 27 = .ok (.iload_n 3, 1) := by decide +kernel
theorem dX4_insertTick_28 : decode cX4_insertTick 28 = .ok (.iconst 1, 1) := by decide +kernel
theorem dX4_insertTick_29 : decode cX4_insertTick 29 = .ok (.isub, 1) := by decide +kernel
theorem dX4_insertTick_30 : decode cX4_insertTick 30 = .ok (.iaload, 1) := by decide +kernel
theorem dX4_insertTick_31 : decode cX4_insertTick 31 = .ok (.iastore, 1) := by decide +kernel
theorem dX4_insertTick_32 : decode cX4_insertTick 32 = .ok (.iinc 3 (-1), 3) := by decide +kernel
theorem dX4_insertTick_35 : decode cX4_insertTick 35 = .ok (.goto (-33), 3) := by decide +kernel
theorem dX4_insertTick_38 : decode cX4_insertTick 38 = .ok (.aload_n 0, 1) := by decide +kernel
theorem dX4_insertTick_39 : decode cX4_insertTick 39 = .ok (.getfield 18, 3) := by decide +kernel
theorem dX4_insertTick_42 : decode cX4_insertTick 42 = .ok (.iload_n 3, 1) := by decide +kernel
theorem dX4_insertTick_43 : decode cX4_insertTick 43 = .ok (.iload_n 1, 1) := by decide +kernel
theorem dX4_insertTick_44 : decode cX4_insertTick 44 = .ok (.iastore, 1) := by decide +kernel
theorem dX4_insertTick_45 : decode cX4_insertTick 45 = .ok (.return_, 1) := by decide +kernel
theorem dX4_isNew_0 : decode cX4_isNew 0 = .ok (.iconst 1, 1) := by decide +kernel
theorem dX4_isNew_1 : decode cX4_isNew 1 = .ok (.istore_n 1, 1) := by decide +kernel
theorem dX4_isNew_2 : decode cX4_isNew 2 = .ok (.iload_n 1, 1) := by decide +kernel
theorem dX4_isNew_3 : decode cX4_isNew 3 = .ok (.aload_n 0, 1) := by decide +kernel
theorem dX4_isNew_4 : decode cX4_isNew 4 = .ok (.getfield 34, 3) := by decide +kernel
theorem dX4_isNew_7 : decode cX4_isNew 7 = .ok (.if_icmp .ge 45, 3) := by decide +kernel
theorem dX4_isNew_10 : decode cX4_isNew 10 = .ok (.aload_n 0, 1) := by decide +kernel
theorem dX4_isNew_11 : decode cX4_isNew 11 = .ok (.getfield 18, 3) := by decide +kernel
theorem dX4_isNew_14 : decode cX4_isNew 14 = .ok (.iload_n 1, 1) := by decide +kernel
theorem dX4_isNew_15 : decode cX4_isNew 15 = .ok (.iconst 1, 1) := by decide +kernel
theorem dX4_isNew_16 : decode cX4_isNew 16 = .ok (.isub, 1) := by decide +kernel
theorem dX4_isNew_17 : decode cX4_isNew 17 = .ok (.iaload, 1) := by decide +kernel
theorem dX4_isNew_18 : decode cX4_isNew 18 = .ok (.aload_n 0, 1) := by decide +kernel
theorem dX4_isNew_19 : decode cX4_isNew 19 = .ok (.getfield 18, 3) := by decide +kernel
theorem dX4_isNew_22 : decode cX4_isNew 22 = .ok (.iload_n 1, 1) := by decide +kernel
theorem dX4_isNew_23 : decode cX4_isNew 23 = .ok (.iaload, 1) := by decide +kernel
theorem dX4_isNew_24 : decode cX4_isNew 24 = .ok (.if_icmp .ne 22, 3) := by decide +kernel
theorem dX4_isNew_27 : decode cX4_isNew 27 = .ok (.aload_n 0, 1) := by decide +kernel
theorem dX4_isNew_28 : decode cX4_isNew 28 = .ok (.getfield 9, 3) := by decide +kernel
theorem dX4_isNew_31 : decode cX4_isNew 31 = .ok (.iload_n 1, 1) := by decide +kernel
theorem dX4_isNew_32 : decode cX4_isNew 32 = .ok (.iconst 1, 1) := by decide +kernel
theorem dX4_isNew_33 : decode cX4_isNew 33 = .ok (.isub, 1) := by decide +kernel
theorem dX4_isNew_34 : decode cX4_isNew 34 = .ok (.iaload, 1) := by decide +kernel
theorem dX4_isNew_35 : decode cX4_isNew 35 = .ok (.aload_n 0, 1) := by decide +kernel
theorem dX4_isNew_36 : decode cX4_isNew 36 = .ok (.getfield 9, 3) := by decide +kernel
theorem dX4_isNew_39 : decode cX4_isNew 39 = .ok (.iload_n 1, 1) := by decide +kernel
theorem dX4_isNew_40 : decode cX4_isNew 40 = .ok (.iaload, 1) := by decide +kernel
theorem dX4_isNew_41 : decode cX4_isNew 41 = .ok (.if_icmp .le 5, 3) := by decide +kernel
theorem dX4_isNew_44 : decode cX4_isNew 44 = .ok (.iconst 0, 1) := by decide +kernel
theorem dX4_isNew_45 : decode cX4_isNew 45 = .ok (.ireturn, 1) := by decide +kernel
theorem dX4_isNew_46 : decode cX4_isNew 46 = .ok (.iinc 1 1, 3) := by decide +kernel
theorem dX4_isNew_49 : decode cX4_isNew 49 = .ok (.goto (-47), 3) := by decide +kernel
theorem dX4_isNew_52 : decode cX4_isNew 52 = .ok (.iconst 1, 1) := by decide +kernel
theorem dX4_isNew_53 : decode cX4_isNew 53 = .ok (.ireturn, 1) := by decide +kernel
theorem dX4_deal_0 : decode cX4_deal 0 = .ok (.iconst 0, 1) := by decide +kernel
theorem dX4_deal_1 : decode cX4_deal 1 = .ok (.istore_n 2, 1) := by decide +kernel
theorem dX4_deal_2 : decode cX4_deal 2 = .ok (.iload_n 2, 1) := by decide +kernel
theorem dX4_deal_3 : decode cX4_deal 3 = .ok (.aload_n 0, 1) := by decide +kernel
theorem dX4_deal_4 : decode cX4_deal 4 = .ok (.getfield 34, 3) := by decide +kernel
theorem dX4_deal_7 : decode cX4_deal 7 = .ok (.if_icmp .ge 26, 3) := by decide +kernel
theorem dX4_deal_10 : decode cX4_deal 10 = .ok (.aload_n 1, 1) := by decide +kernel
theorem dX4_deal_11 : decode cX4_deal 11 = .ok (.getfield 42, 3) := by decide +kernel
theorem dX4_deal_14 : decode cX4_deal 14 = .ok (.aload_n 0, 1) := by decide +kernel
theorem dX4_deal_15 : decode cX4_deal 15 = .ok (.getfield 9, 3) := by decide +kernel
theorem dX4_deal_18 : decode cX4_deal 18 = .ok (.iload_n 2, 1) := by decide +kernel
theorem dX4_deal_19 : decode cX4_deal 19 = .ok (.iaload, 1) := by decide +kernel
theorem dX4_deal_20 : decode cX4_deal 20 = .ok (.aload_n 0, 1) := by decide +kernel
theorem dX4_deal_21 : decode cX4_deal 21 = .ok (.getfield 18, 3) := by decide +kernel
theorem dX4_deal_24 : decode cX4_deal 24 = .ok (.iload_n 2, 1) := by decide +kernel
theorem dX4_deal_25 : decode cX4_deal 25 = .ok (.iaload, 1) := by decide +kernel
theorem dX4_deal_26 : decode cX4_deal 26 = .ok (.iastore, 1) := by decide +kernel
theorem dX4_deal_27 : decode cX4_deal 27 = .ok (.iinc 2 1, 3) := by decide +kernel
theorem dX4_deal_30 : decode cX4_deal 30 = .ok (.goto (-28), 3) := by decide +kernel
theorem dX4_deal_33 : decode cX4_deal 33 = .ok (.return_, 1) := by decide +kernel
theorem dX4_weigh_0 : decode cX4_weigh 0 = .ok (.aload_n 1, 1) := by decide +kernel
theorem dX4_weigh_1 : decode cX4_weigh 1 = .ok (.aload_n 2, 1) := by decide +kernel
theorem dX4_weigh_2 : decode cX4_weigh 2 = .ok (.getfield 37, 3) := by decide +kernel
theorem dX4_weigh_5 : decode cX4_weigh 5 = .ok (.invokevirtual 47, 3) := by decide +kernel
theorem dX4_weigh_8 : decode cX4_weigh 8 = .ok (.istore_n 3, 1) := by decide +kernel
theorem dX4_weigh_9 : decode cX4_weigh 9 = .ok (.iload_n 3, 1) := by decide +kernel
theorem dX4_weigh_10 : decode cX4_weigh 10 = .ok (.aload_n 0, 1) := by decide +kernel
theorem dX4_weigh_11 : decode cX4_weigh 11 = .ok (.getfield 25, 3) := by decide +kernel
theorem dX4_weigh_14 : decode cX4_weigh 14 = .ok (.if_icmp .le 4, 3) := by decide +kernel
theorem dX4_weigh_17 : decode cX4_weigh 17 = .ok (.return_, 1) := by decide +kernel
theorem dX4_weigh_18 : decode cX4_weigh 18 = .ok (.aload_n 1, 1) := by decide +kernel
theorem dX4_weigh_19 : decode cX4_weigh 19 = .ok (.aload_n 2, 1) := by decide +kernel
theorem dX4_weigh_20 : decode cX4_weigh 20 = .ok (.invokevirtual 53, 3) := by decide +kernel
theorem dX4_weigh_23 : decode cX4_weigh 23 = .ok (.istore 4, 2) := by decide +kernel
theorem dX4_weigh_25 : decode cX4_weigh 25 = .ok (.iload_n 3, 1) := by decide +kernel
theorem dX4_weigh_26 : decode cX4_weigh 26 = .ok (.aload_n 0, 1) := by decide +kernel
theorem dX4_weigh_27 : decode cX4_weigh 27 = .ok (.getfield 25, 3) := by decide +kernel
theorem dX4_weigh_30 : decode cX4_weigh 30 = .ok (.if_icmp .lt 12, 3) := by decide +kernel
theorem dX4_weigh_33 : decode cX4_weigh 33 = .ok (.iload 4, 2) := by decide +kernel
theorem dX4_weigh_35 : decode cX4_weigh 35 = .ok (.aload_n 0, 1) := by decide +kernel
theorem dX4_weigh_36 : decode cX4_weigh 36 = .ok (.getfield 31, 3) := by decide +kernel
theorem dX4_weigh_39 : decode cX4_weigh 39 = .ok (.if_icmp .ge 29, 3) := by decide +kernel
theorem dX4_weigh_42 : decode cX4_weigh 42 = .ok (.aload_n 0, 1) := by decide +kernel
theorem dX4_weigh_43 : decode cX4_weigh 43 = .ok (.iload_n 3, 1) := by decide +kernel
theorem dX4_weigh_44 : decode cX4_weigh 44 = .ok (.putfield 25, 3) := by decide +kernel
theorem dX4_weigh_47 : decode cX4_weigh 47 = .ok (.aload_n 0, 1) := by decide +kernel
theorem dX4_weigh_48 : decode cX4_weigh 48 = .ok (.iload 4, 2) := by decide +kernel
theorem dX4_weigh_50 : decode cX4_weigh 50 = .ok (.putfield 31, 3) := by decide +kernel
theorem dX4_weigh_53 : decode cX4_weigh 53 = .ok (.aload_n 0, 1) := by decide +kernel
theorem dX4_weigh_54 : decode cX4_weigh 54 = .ok (.getfield 9, 3) := by decide +kernel
theorem dX4_weigh_57 : decode cX4_weigh 57 = .ok (.iconst 0, 1) := by decide +kernel
theorem dX4_weigh_58 : decode cX4_weigh 58 = .ok (.aload_n 0, 1) := by decide +kernel
theorem dX4_weigh_59 : decode cX4_weigh 59 = .ok (.getfield 15, 3) := by decide +kernel
theorem dX4_weigh_62 : decode cX4_weigh 62 = .ok (.iconst 0, 1) := by decide +kernel
theorem dX4_weigh_63 : decode cX4_weigh 63 = .ok (.bipush 6, 2) := by decide +kernel
theorem dX4_weigh_65 : decode cX4_weigh 65 = .ok (.invokestatic 57, 3) := by decide +kernel
theorem dX4_weigh_68 : decode cX4_weigh 68 = .ok (.return_, 1) := by decide +kernel
theorem dX4_next_0 : decode cX4_next 0 = .ok (.aload_n 0, 1) := by decide +kernel
theorem dX4_next_1 : decode cX4_next 1 = .ok (.getfield 34, 3) := by decide +kernel
theorem dX4_next_4 : decode cX4_next 4 = .ok (.iconst 2, 1) := by decide +kernel
theorem dX4_next_5 : decode cX4_next 5 = .ok (.isub, 1) := by decide +kernel
theorem dX4_next_6 : decode cX4_next 6 = .ok (.istore_n 1, 1) := by decide +kernel
theorem dX4_next_7 : decode cX4_next 7 = .ok (.iload_n 1, 1) := by decide +kernel
theorem dX4_next_8 : decode cX4_next 8 = .ok (.ifCond .lt 26, 3) := by decide +kernel
theorem dX4_next_11 : decode cX4_next 11 = .ok (.aload_n 0, 1) := by decide +kernel
theorem dX4_next_12 : decode cX4_next 12 = .ok (.getfield 9, 3) := by decide +kernel
theorem dX4_next_15 : decode cX4_next 15 = .ok (.iload_n 1, 1) := by decide +kernel
theorem dX4_next_16 : decode cX4_next 16 = .ok (.iaload, 1) := by decide +kernel
theorem dX4_next_17 : decode cX4_next 17 = .ok (.aload_n 0, 1) := by decide +kernel
theorem dX4_next_18 : decode cX4_next 18 = .ok (.getfield 9, 3) := by decide +kernel
theorem dX4_next_21 : decode cX4_next 21 = .ok (.iload_n 1, 1) := by decide +kernel
theorem dX4_next_22 : decode cX4_next 22 = .ok (.iconst 1, 1) := by decide +kernel
theorem dX4_next_23 : decode cX4_next 23 = .ok (.iadd, 1) := by decide +kernel
theorem dX4_next_24 : decode cX4_next 24 = .ok (.iaload, 1) := by decide +kernel
theorem dX4_next_25 : decode cX4_next 25 = .ok (.if_icmp .le 9, 3) := by decide +kernel
theorem dX4_next_28 : decode cX4_next 28 = .ok (.iinc 1 (-1), 3) := by decide +kernel
theorem dX4_next_31 : decode cX4_next 31 = .ok (.goto (-24), 3) := by decide +kernel
theorem dX4_next_34 : decode cX4_next 34 = .ok (.iload_n 1, 1) := by decide +kernel
theorem dX4_next_35 : decode cX4_next 35 = .ok (.ifCond .ge 5, 3) := by decide +kernel
theorem dX4_next_38 : decode cX4_next 38 = .ok (.iconst 0, 1) := by decide +kernel
theorem dX4_next_39 : decode cX4_next 39 = .ok (.ireturn, 1) := by decide +kernel
theorem dX4_next_40 : decode cX4_next 40 = .ok (.aload_n 0, 1) := by decide +kernel
theorem dX4_next_41 : decode cX4_next 41 = .ok (.getfield 34, 3) := by decide +kernel
theorem dX4_next_44 : decode cX4_next 44 = .ok (.iconst 1, 1) := by decide +kernel
theorem dX4_next_45 : decode cX4_next 45 = .ok (.isub, 1) := by decide +kernel
theorem dX4_next_46 : decode cX4_next 46 = .ok (.istore_n 2, 1) := by decide +kernel
theorem dX4_next_47 : decode cX4_next 47 = .ok (.iload_n 2, 1) := by decide +kernel
theorem dX4_next_48 : decode cX4_next 48 = .ok (.iload_n 1, 1) := by decide +kernel
theorem dX4_next_49 : decode cX4_next 49 = .ok (.if_icmp .le 24, 3) := by decide +kernel
theorem dX4_next_52 : decode cX4_next 52 = .ok (.aload_n 0, 1) := by decide +kernel
theorem dX4_next_53 : decode cX4_next 53 = .ok (.getfield 9, 3) := by decide +kernel
theorem dX4_next_56 : decode cX4_next 56 = .ok (.iload_n 2, 1) := by decide +kernel
theorem dX4_next_57 : decode cX4_next 57 = .ok (.iaload, 1) := by decide +kernel
theorem dX4_next_58 : decode cX4_next 58 = .ok (.aload_n 0, 1) := by decide +kernel
theorem dX4_next_59 : decode cX4_next 59 = .ok (.getfield 9, 3) := by decide +kernel
theorem dX4_next_62 : decode cX4_next 62 = .ok (.iload_n 1, 1) := by decide +kernel
theorem dX4_next_63 : decode cX4_next 63 = .ok (.iaload, 1) := by decide +kernel
theorem dX4_next_64 : decode cX4_next 64 = .ok (.if_icmp .ge 9, 3) := by decide +kernel
theorem dX4_next_67 : decode cX4_next 67 = .ok (.iinc 2 (-1), 3) := by decide +kernel
theorem dX4_next_70 : decode cX4_next 70 = .ok (.goto (-23), 3) := by decide +kernel
theorem dX4_next_73 : decode cX4_next 73 = .ok (.aload_n 0, 1) := by decide +kernel
theorem dX4_next_74 : decode cX4_next 74 = .ok (.iload_n 1, 1) := by decide +kernel
theorem dX4_next_75 : decode cX4_next 75 = .ok (.iload_n 2, 1) := by decide +kernel
theorem dX4_next_76 : decode cX4_next 76 = .ok (.invokevirtual 63, 3) := by decide +kernel
theorem dX4_next_79 : decode cX4_next 79 = .ok (.iload_n 1, 1) := by decide +kernel
theorem dX4_next_80 : decode cX4_next 80 = .ok (.iconst 1, 1) := by decide +kernel
theorem dX4_next_81 : decode cX4_next 81 = .ok (.iadd, 1) := by decide +kernel
theorem dX4_next_82 : decode cX4_next 82 = .ok (.istore_n 3, 1) := by decide +kernel
theorem dX4_next_83 : decode cX4_next 83 = .ok (.aload_n 0, 1) := by decide +kernel
theorem dX4_next_84 : decode cX4_next 84 = .ok (.getfield 34, 3) := by decide +kernel
theorem dX4_next_87 : decode cX4_next 87 = .ok (.iconst 1, 1) := by decide +kernel
theorem dX4_next_88 : decode cX4_next 88 = .ok (.isub, 1) := by decide +kernel
theorem dX4_next_89 : decode cX4_next 89 = .ok (.istore 4, 2) := by decide +kernel
theorem dX4_next_91 : decode cX4_next 91 = .ok (.iload_n 3, 1) := by decide +kernel
theorem dX4_next_92 : decode cX4_next 92 = .ok (.iload 4, 2) := by decide +kernel
theorem dX4_next_94 : decode cX4_next 94 = .ok (.if_icmp .ge 19, 3) := by decide +kernel
theorem dX4_next_97 : decode cX4_next 97 = .ok (.aload_n 0, 1) := by decide +kernel
theorem dX4_next_98 : decode cX4_next 98 = .ok (.iload_n 3, 1) := by decide +kernel
theorem dX4_next_99 : decode cX4_next 99 = .ok (.iload 4, 2) := by decide +kernel
theorem dX4_next_101 : decode cX4_next 101 = .ok (.invokevirtual 63, 3) := by decide +kernel
theorem dX4_next_104 : decode cX4_next 104 = .ok (.iinc 3 1, 3) := by decide +kernel
theorem dX4_next_107 : decode cX4_next 107 = .ok (.iinc 4 (-1), 3) := by decide +kernel
theorem dX4_next_110 : decode cX4_next 110 = .ok (.goto (-19), 3) := by decide +kernel
theorem dX4_next_113 : decode cX4_next 113 = .ok (.iconst 1, 1) := by decide +kernel
theorem dX4_next_114 : decode cX4_next 114 = .ok (.ireturn, 1) := by decide +kernel
theorem dX4_exchange_0 : decode cX4_exchange 0 = .ok (.aload_n 0, 1) := by decide +kernel
theorem dX4_exchange_1 : decode cX4_exchange 1 = .ok (.getfield 9, 3) := by decide +kernel
theorem dX4_exchange_4 : decode cX4_exchange 4 = .ok (.iload_n 1, 1) := by decide +kernel
theorem dX4_exchange_5 : decode cX4_exchange 5 = .ok (.iaload, 1) := by decide +kernel
theorem dX4_exchange_6 : decode cX4_exchange 6 = .ok (.istore_n 3, 1) := by decide +kernel
theorem dX4_exchange_7 : decode cX4_exchange 7 = .ok (.aload_n 0, 1) := by decide +kernel
theorem dX4_exchange_8 : decode cX4_exchange 8 = .ok (.getfield 9, 3) := by decide +kernel
theorem dX4_exchange_11 : decode cX4_exchange 11 = .ok (.iload_n 1, 1) := by decide +kernel
theorem dX4_exchange_12 : decode cX4_exchange 12 = .ok (.aload_n 0, 1) := by decide +kernel
theorem dX4_exchange_13 : decode cX4_exchange 13 = .ok (.getfield 9, 3) := by decide +kernel
theorem dX4_exchange_16 : decode cX4_exchange 16 = .ok (.iload_n 2, 1) := by decide +kernel
theorem dX4_exchange_17 : decode cX4_exchange 17 = .ok (.iaload, 1) := by decide +kernel
theorem dX4_exchange_18 : decode cX4_exchange 18 = .ok (.iastore, 1) := by decide +kernel
theorem dX4_exchange_19 : decode cX4_exchange 19 = .ok (.aload_n 0, 1) := by decide +kernel
theorem dX4_exchange_20 : decode cX4_exchange 20 = .ok (.getfield 9, 3) := by decide +kernel
theorem dX4_exchange_23 : decode cX4_exchange 23 = .ok (.iload_n 2, 1) := by decide +kernel
theorem dX4_exchange_24 : decode cX4_exchange 24 = .ok (.iload_n 3, 1) := by decide +kernel
theorem dX4_exchange_25 : decode cX4_exchange 25 = .ok (.iastore, 1) := by decide +kernel
theorem dX4_exchange_26 : decode cX4_exchange 26 = .ok (.return_, 1) := by decide +kernel
theorem dX5_init_0 : decode cX5_init 0 = .ok (.aload_n 0, 1) := by decide +kernel
theorem dX5_init_1 : decode cX5_init 1 = .ok (.invokespecial 3, 3) := by decide +kernel
theorem dX5_init_4 : decode cX5_init 4 = .ok (.aload_n 0, 1) := by decide +kernel
theorem dX5_init_5 : decode cX5_init 5 = .ok (.bipush 9, 2) := by decide +kernel
theorem dX5_init_7 : decode cX5_init 7 = .ok (.newarray .int, 2) := by decide +kernel
theorem dX5_init_9 : decode cX5_init 9 = .ok (.putfield 9, 3) := by decide +kernel
theorem dX5_init_12 : decode cX5_init 12 = .ok (.aload_n 0, 1) := by decide +kernel
theorem dX5_init_13 : decode cX5_init 13 = .ok (.bipush 12, 2) := by decide +kernel
theorem dX5_init_15 : decode cX5_init 15 = .ok (.newarray .int, 2) := by decide +kernel
theorem dX5_init_17 : decode cX5_init 17 = .ok (.putfield 15, 3) := by decide +kernel
theorem dX5_init_20 : decode cX5_init 20 = .ok (.aload_n 0, 1) := by decide +kernel
theorem dX5_init_21 : decode cX5_init 21 = .ok (.bipush 12, 2) := by decide +kernel
theorem dX5_init_23 : decode cX5_init 23 = .ok (.newarray .int, 2) := by decide +kernel
theorem dX5_init_25 : decode cX5_init 25 = .ok (.putfield 18, 3) := by decide +kernel
theorem dX5_init_28 : decode cX5_init 28 = .ok (.aload_n 0, 1) := by decide +kernel
theorem dX5_init_29 : decode cX5_init 29 = .ok (.bipush 12, 2) := by decide +kernel
theorem dX5_init_31 : decode cX5_init 31 = .ok (.newarray .int, 2) := by decide +kernel
theorem dX5_init_33 : decode cX5_init 33 = .ok (.putfield 21, 3) := by decide +kernel
theorem dX5_init_36 : decode cX5_init 36 = .ok (.getstatic 24, 3) := by decide +kernel
theorem dX5_init_39 : decode cX5_init 39 = .ok (.iconst 0, 1) := by decide +kernel
theorem dX5_init_40 : decode cX5_init 40 = .ok (.aload_n 0, 1) := by decide +kernel
theorem dX5_init_41 : decode cX5_init 41 = .ok (.getfield 9, 3) := by decide +kernel
theorem dX5_init_44 : decode cX5_init 44 = .ok (.iconst 0, 1) := by decide +kernel
theorem dX5_init_45 : decode cX5_init 45 = .ok (.bipush 9, 2) := by decide +kernel
theorem dX5_init_47 : decode cX5_init 47 = .ok (.invokestatic 27, 3) := by decide +kernel
theorem dX5_init_50 : decode cX5_init 50 = .ok (.return_, 1) := by decide +kernel
theorem dX5_become_0 : decode cX5_become 0 = .ok (.aload_n 1, 1) := by decide +kernel
theorem dX5_become_1 : decode cX5_become 1 = .ok (.getfield 9, 3) := by decide +kernel
theorem dX5_become_4 : decode cX5_become 4 = .ok (.iconst 0, 1) := by decide +kernel
theorem dX5_become_5 : decode cX5_become 5 = .ok (.aload_n 0, 1) := by decide +kernel
theorem dX5_become_6 : decode cX5_become 6 = .ok (.getfield 9, 3) := by decide +kernel
theorem dX5_become_9 : decode cX5_become 9 = .ok (.iconst 0, 1) := by decide +kernel
theorem dX5_become_10 : decode cX5_become 10 = .ok (.bipush 9, 2) := by decide +kernel
theorem dX5_become_12 : decode cX5_become 12 = .ok (.invokestatic 27, 3) := by decide +kernel
theorem dX5_become_15 : decode cX5_become 15 = .ok (.aload_n 1, 1) := by decide +kernel
theorem dX5_become_16 : decode cX5_become 16 = .ok (.getfield 15, 3) := by decide +kernel
theorem dX5_become_19 : decode cX5_become 19 = .ok (.iconst 0, 1) := by decide +kernel
theorem dX5_become_20 : decode cX5_become 20 = .ok (.aload_n 0, 1) := by decide +kernel
theorem dX5_become_21 : decode cX5_become 21 = .ok (.getfield 15, 3) := by decide +kernel
theorem dX5_become_24 : decode cX5_become 24 = .ok (.iconst 0, 1) := by decide +kernel
theorem dX5_become_25 : decode cX5_become 25 = .ok (.bipush 12, 2) := by decide +kernel
theorem dX5_become_27 : decode cX5_become 27 = .ok (.invokestatic 27, 3) := by decide +kernel
theorem dX5_become_30 : decode cX5_become 30 = .ok (.aload_n 1, 1) := by decide +kernel
theorem dX5_become_31 : decode cX5_become 31 = .ok (.getfield 18, 3) := by decide +kernel
theorem dX5_become_34 : decode cX5_become 34 = .ok (.iconst 0, 1) := by decide +kernel
theorem dX5_become_35 : decode cX5_become 35 = .ok (.aload_n 0, 1) := by decide +kernel
theorem dX5_become_36 : decode cX5_become 36 = .ok (.getfield 18, 3) := by decide +kernel
theorem dX5_become_39 : decode cX5_become 39 = .ok (.iconst 0, 1) := by decide +kernel
theorem dX5_become_40 : decode cX5_become 40 = .ok (.bipush 12, 2) := by decide +kernel
theorem dX5_become_42 : decode cX5_become 42 = .ok (.invokestatic 27, 3) := by decide +kernel
theorem dX5_become_45 : decode cX5_become 45 = .ok (.aload_n 1, 1) := by decide +kernel
theorem dX5_become_46 : decode cX5_become 46 = .ok (.getfield 21, 3) := by decide +kernel
theorem dX5_become_49 : decode cX5_become 49 = .ok (.iconst 0, 1) := by decide +kernel
theorem dX5_become_50 : decode cX5_become 50 = .ok (.aload_n 0, 1) := by decide +kernel
theorem dX5_become_51 : decode cX5_become 51 = .ok (.getfield 21, 3) := by decide +kernel
theorem dX5_become_54 : decode cX5_become 54 = .ok (.iconst 0, 1) := by decide +kernel
theorem dX5_become_55 : decode cX5_become 55 = .ok (.bipush 12, 2) := by decide +kernel
theorem dX5_become_57 : decode cX5_become 57 = .ok (.invokestatic 27, 3) := by decide +kernel
theorem dX5_become_60 : decode cX5_become 60 = .ok (.aload_n 0, 1) := by decide +kernel
theorem dX5_become_61 : decode cX5_become 61 = .ok (.aload_n 1, 1) := by decide +kernel
theorem dX5_become_62 : decode cX5_become 62 = .ok (.getfield 33, 3) := by decide +kernel
theorem dX5_become_65 : decode cX5_become 65 = .ok (.putfield 33, 3) := by decide +kernel
theorem dX5_become_68 : decode cX5_become 68 = .ok (.return_, 1) := by decide +kernel
theorem dX5_add_0 : decode cX5_add 0 = .ok (.aload_n 0, 1) := by decide +kernel
theorem dX5_add_1 : decode cX5_add 1 = .ok (.getfield 33, 3) := by decide +kernel
theorem dX5_add_4 : decode cX5_add 4 = .ok (.bipush 12, 2) := by decide +kernel
theorem dX5_add_6 : decode cX5_add 6 = .ok (.if_icmp .ge 43, 3) := by decide +kernel
theorem dX5_add_9 : decode cX5_add 9 = .ok (.aload_n 0, 1) := by decide +kernel
theorem dX5_add_10 : decode cX5_add 10 = .ok (.getfield 15, 3) := by decide +kernel
theorem dX5_add_13 : decode cX5_add 13 = .ok (.aload_n 0, 1) := by decide +kernel
theorem dX5_add_14 : decode cX5_add 14 = .ok (.getfield 33, 3) := by decide +kernel
theorem dX5_add_17 : decode cX5_add 17 = .ok (.iload_n 1, 1) := by decide +kernel
theorem dX5_add_18 : decode cX5_add 18 = .ok (.iastore, 1) := by decide +kernel
theorem dX5_add_19 : decode cX5_add 19 = .ok (.aload_n 0, 1) := by decide +kernel
theorem dX5_add_20 : decode cX5_add 20 = .ok (.getfield 18, 3) := by decide +kernel
theorem dX5_add_23 : decode cX5_add 23 = .ok (.aload_n 0, 1) := by decide +kernel
theorem dX5_add_24 : decode cX5_add 24 = .ok (.getfield 33, 3) := by decide +kernel
theorem dX5_add_27 : decode cX5_add 27 = .ok (.iload_n 2, 1) := by decide +kernel
theorem dX5_add_28 : decode cX5_add 28 = .ok (.iastore, 1) := by decide +kernel
theorem dX5_add_29 : decode cX5_add 29 = .ok (.aload_n 0, 1) := by decide +kernel
theorem dX5_add_30 : decode cX5_add 30 = .ok (.getfield 21, 3) := by decide +kernel
theorem dX5_add_33 : decode cX5_add 33 = .ok (.aload_n 0, 1) := by decide +kernel
theorem dX5_add_34 : decode cX5_add 34 = .ok (.getfield 33, 3) := by decide +kernel
theorem dX5_add_37 : decode cX5_add 37 = .ok (.iload_n 3, 1) := by decide +kernel
theorem dX5_add_38 : decode cX5_add 38 = .ok (.iastore, 1) := by decide +kernel
theorem dX5_add_39 : decode cX5_add 39 = .ok (.aload_n 0, 1) := by decide +kernel
theorem dX5_add_40 : decode cX5_add 40 = .ok (.dup, 1) := by decide +kernel
theorem dX5_add_41 : decode cX5_add 41 = .ok (.getfield 33, 3) := by decide +kernel
theorem dX5_add_44 : decode cX5_add 44 = .ok (.iconst 1, 1) := by decide +kernel
theorem dX5_add_45 : decode cX5_add 45 = .ok (.iadd, 1) := by decide +kernel
theorem dX5_add_46 : decode cX5_add 46 = .ok (.putfield 33, 3) := by decide +kernel
theorem dX5_add_49 : decode cX5_add 49 = .ok (.return_, 1) := by decide +kernel
theorem dX5_has_0 : decode cX5_has 0 = .ok (.iload_n 1, 1) := by decide +kernel
theorem dX5_has_1 : decode cX5_has 1 = .ok (.aload_n 0, 1) := by decide +kernel
theorem dX5_has_2 : decode cX5_has 2 = .ok (.getfield 33, 3) := by decide +kernel
theorem dX5_has_5 : decode cX5_has 5 = .ok (.invokestatic 37, 3) := by decide +kernel
theorem dX5_has_8 : decode cX5_has 8 = .ok (.ireturn, 1) := by decide +kernel
theorem dX5_everyone_0 : decode cX5_everyone 0 = .ok (.iconst 1, 1) := by decide +kernel
theorem dX5_everyone_1 : decode cX5_everyone 1 = .ok (.aload_n 0, 1) := by decide +kernel
theorem dX5_everyone_2 : decode cX5_everyone 2 = .ok (.getfield 33, 3) := by decide +kernel
theorem dX5_everyone_5 : decode cX5_everyone 5 = .ok (.ishl, 1) := by decide +kernel
theorem dX5_everyone_6 : decode cX5_everyone 6 = .ok (.iconst 1, 1) := by decide +kernel
theorem dX5_everyone_7 : decode cX5_everyone 7 = .ok (.isub, 1) := by decide +kernel
theorem dX5_everyone_8 : decode cX5_everyone 8 = .ok (.ireturn, 1) := by decide +kernel
theorem dX5_sizeOf_0 : decode cX5_sizeOf 0 = .ok (.getstatic 41, 3) := by decide +kernel
theorem dX5_sizeOf_3 : decode cX5_sizeOf 3 = .ok (.aload_n 0, 1) := by decide +kernel
theorem dX5_sizeOf_4 : decode cX5_sizeOf 4 = .ok (.getfield 21, 3) := by decide +kernel
theorem dX5_sizeOf_7 : decode cX5_sizeOf 7 = .ok (.iload_n 1, 1) := by decide +kernel
theorem dX5_sizeOf_8 : decode cX5_sizeOf 8 = .ok (.iaload, 1) := by decide +kernel
theorem dX5_sizeOf_9 : decode cX5_sizeOf 9 = .ok (.iaload, 1) := by decide +kernel
theorem dX5_sizeOf_10 : decode cX5_sizeOf 10 = .ok (.ireturn, 1) := by decide +kernel
theorem dX5_pushOf_0 : decode cX5_pushOf 0 = .ok (.getstatic 44, 3) := by decide +kernel
theorem dX5_pushOf_3 : decode cX5_pushOf 3 = .ok (.aload_n 0, 1) := by decide +kernel
theorem dX5_pushOf_4 : decode cX5_pushOf 4 = .ok (.getfield 21, 3) := by decide +kernel
theorem dX5_pushOf_7 : decode cX5_pushOf 7 = .ok (.iload_n 1, 1) := by decide +kernel
theorem dX5_pushOf_8 : decode cX5_pushOf 8 = .ok (.iaload, 1) := by decide +kernel
theorem dX5_pushOf_9 : decode cX5_pushOf 9 = .ok (.iaload, 1) := by decide +kernel
theorem dX5_pushOf_10 : decode cX5_pushOf 10 = .ok (.ireturn, 1) := by decide +kernel
theorem dX5_isLaden_0 : decode cX5_isLaden 0 = .ok (.aload_n 0, 1) := by decide +kernel
theorem dX5_isLaden_1 : decode cX5_isLaden 1 = .ok (.getfield 21, 3) := by decide +kernel
theorem dX5_isLaden_4 : decode cX5_isLaden 4 = .ok (.iload_n 1, 1) := by decide +kernel
theorem dX5_isLaden_5 : decode cX5_isLaden 5 = .ok (.iaload, 1) := by decide +kernel
theorem dX5_isLaden_6 : decode cX5_isLaden 6 = .ok (.iconst 1, 1) := by decide +kernel
theorem dX5_isLaden_7 : decode cX5_isLaden 7 = .ok (.if_icmp .eq 13, 3) := by decide +kernel
theorem dX5_isLaden_10 : decode cX5_isLaden 10 = .ok (.aload_n 0, 1) := by decide +kernel
theorem dX5_isLaden_11 : decode cX5_isLaden 11 = .ok (.getfield 21, 3) := by decide +kernel
theorem dX5_isLaden_14 : decode cX5_isLaden 14 = .ok (.iload_n 1, 1) := by decide +kernel
theorem dX5_isLaden_15 : decode cX5_isLaden 15 = .ok (.iaload, 1) := by decide +kernel
theorem dX5_isLaden_16 : decode cX5_isLaden 16 = .ok (.iconst 2, 1) := by decide +kernel
theorem dX5_isLaden_17 : decode cX5_isLaden 17 = .ok (.if_icmp .ne 7, 3) := by decide +kernel
theorem dX5_isLaden_20 : decode cX5_isLaden 20 = .ok (.iconst 1, 1) := by decide +kernel
theorem dX5_isLaden_21 : decode cX5_isLaden 21 = .ok (.goto 4, 3) := by decide +kernel
theorem dX5_isLaden_24 : decode cX5_isLaden 24 = .ok (.iconst 0, 1) := by decide +kernel
theorem dX5_isLaden_25 : decode cX5_isLaden 25 = .ok (.ireturn, 1) := by decide +kernel
theorem dX5_fromStreet_0 : decode cX5_fromStreet 0 = .ok (.iconst 0, 1) := by decide +kernel
theorem dX5_fromStreet_1 : decode cX5_fromStreet 1 = .ok (.istore_n 1, 1) := by decide +kernel
theorem dX5_fromStreet_2 : decode cX5_fromStreet 2 = .ok (.iconst 0, 1) := by decide +kernel
theorem dX5_fromStreet_3 : decode cX5_fromStreet 3 = .ok (.istore_n 2, 1) := by decide +kernel
theorem dX5_fromStreet_4 : decode cX5_fromStreet 4 = .ok (.iload_n 2, 1) := by decide +kernel
theorem dX5_fromStreet_5 : decode cX5_fromStreet 5 = .ok (.aload_n 0, 1) := by decide +kernel
theorem dX5_fromStreet_6 : decode cX5_fromStreet 6 = .ok (.getfield 33, 3) := by decide +kernel
theorem dX5_fromStreet_9 : decode cX5_fromStreet 9 = .ok (.if_icmp .ge 21, 3) := by decide +kernel
theorem dX5_fromStreet_12 : decode cX5_fromStreet 12 = .ok (.aload_n 0, 1) := by decide +kernel
theorem dX5_fromStreet_13 : decode cX5_fromStreet 13 = .ok (.getfield 18, 3) := by decide +kernel
theorem dX5_fromStreet_16 : decode cX5_fromStreet 16 = .ok (.iload_n 2, 1) := by decide +kernel
theorem dX5_fromStreet_17 : decode cX5_fromStreet 17 = .ok (.iaload, 1) := by decide +kernel
theorem dX5_fromStreet_18 : decode cX5_fromStreet 18 = .ok (.ifCond .ne 6, 3) := by decide +kernel
theorem dX5_fromStreet_21 : decode cX5_fromStreet 21 = .ok (.iinc 1 1, 3) := by decide +kernel
theorem dX5_fromStreet_24 : decode cX5_fromStreet 24 = .ok (.iinc 2 1, 3) := by decide +kernel
theorem dX5_fromStreet_27 : decode cX5_fromStreet 27 = .ok (.goto (-23), 3) := by decide +kernel
theorem dX5_fromStreet_30 : decode cX5_fromStreet 30 = .ok (.iload_n 1, 1) := by decide +kernel
theorem dX5_fromStreet_31 : decode cX5_fromStreet 31 = .ok (.ireturn, 1) := by decide +kernel
theorem dX6_init_0 : decode cX6_init 0 = .ok (.aload_n 0, 1) := by decide +kernel
theorem dX6_init_1 : decode cX6_init 1 = .ok (.invokespecial 3, 3) := by decide +kernel
theorem dX6_init_4 : decode cX6_init 4 = .ok (.aload_n 0, 1) := by decide +kernel
theorem dX6_init_5 : decode cX6_init 5 = .ok (.bipush 16, 2) := by decide +kernel
theorem dX6_init_7 : decode cX6_init 7 = .ok (.newarray .int, 2) := by decide +kernel
theorem dX6_init_9 : decode cX6_init 9 = .ok (.putfield 9, 3) := by decide +kernel
theorem dX6_init_12 : decode cX6_init 12 = .ok (.aload_n 0, 1) := by decide +kernel
theorem dX6_init_13 : decode cX6_init 13 = .ok (.iconst (-1), 1) := by decide +kernel
theorem dX6_init_14 : decode cX6_init 14 = .ok (.putfield 15, 3) := by decide +kernel
theorem dX6_init_17 : decode cX6_init 17 = .ok (.return_, 1) := by decide +kernel
theorem dX6_isThere_0 : decode cX6_isThere 0 = .ok (.aload_n 0, 1) := by decide +kernel
theorem dX6_isThere_1 : decode cX6_isThere 1 = .ok (.getfield 15, 3) := by decide +kernel
theorem dX6_isThere_4 : decode cX6_isThere 4 = .ok (.iconst (-1), 1) := by decide +kernel
theorem dX6_isThere_5 : decode cX6_isThere 5 = .ok (.if_icmp .eq 7, 3) := by decide +kernel
theorem dX6_isThere_8 : decode cX6_isThere 8 = .ok (.iconst 1, 1) := by decide +kernel
theorem dX6_isThere_9 : decode cX6_isThere 9 = .ok (.goto 4, 3) := by decide +kernel
theorem dX6_isThere_12 : decode cX6_isThere 12 = .ok (.iconst 0, 1) := by decide +kernel
theorem dX6_isThere_13 : decode cX6_isThere 13 = .ok (.ireturn, 1) := by decide +kernel
theorem dX6_renew_0 : decode cX6_renew 0 = .ok (.aload_n 0, 1) := by decide +kernel
theorem dX6_renew_1 : decode cX6_renew 1 = .ok (.iload_n 1, 1) := by decide +kernel
theorem dX6_renew_2 : decode cX6_renew 2 = .ok (.putfield 15, 3) := by decide +kernel
theorem dX6_renew_5 : decode cX6_renew 5 = .ok (.aload_n 0, 1) := by decide +kernel
theorem dX6_renew_6 : decode cX6_renew 6 = .ok (.iload_n 2, 1) := by decide +kernel
theorem dX6_renew_7 : decode cX6_renew 7 = .ok (.putfield 19, 3) := by decide +kernel
theorem dX6_renew_10 : decode cX6_renew 10 = .ok (.iconst 0, 1) := by decide +kernel
theorem dX6_renew_11 : decode cX6_renew 11 = .ok (.istore_n 3, 1) := by decide +kernel
theorem dX6_renew_12 : decode cX6_renew 12 = .ok (.iload_n 3, 1) := by decide +kernel
theorem dX6_renew_13 : decode cX6_renew 13 = .ok (.bipush 16, 2) := by decide +kernel
theorem dX6_renew_15 : decode cX6_renew 15 = .ok (.if_icmp .ge 16, 3) := by decide +kernel
theorem dX6_renew_18 : decode cX6_renew 18 = .ok (.aload_n 0, 1) := by decide +kernel
theorem dX6_renew_19 : decode cX6_renew 19 = .ok (.getfield 9, 3) := by decide +kernel
theorem dX6_renew_22 : decode cX6_renew 22 = .ok (.iload_n 3, 1) := by decide +kernel
theorem dX6_renew_23 : decode cX6_renew 23 = .ok (.iconst 0, 1) := by decide +kernel
theorem dX6_renew_24 : decode cX6_renew 24 = .ok (.iastore, 1) := by decide +kernel
theorem dX6_renew_25 : decode cX6_renew 25 = .ok (.iinc 3 1, 3) := by decide +kernel
theorem dX6_renew_28 : decode cX6_renew 28 = .ok (.goto (-16), 3) := by decide +kernel
theorem dX6_renew_31 : decode cX6_renew 31 = .ok (.return_, 1) := by decide +kernel
theorem dX6_leave_0 : decode cX6_leave 0 = .ok (.aload_n 0, 1) := by decide +kernel
theorem dX6_leave_1 : decode cX6_leave 1 = .ok (.iconst (-1), 1) := by decide +kernel
theorem dX6_leave_2 : decode cX6_leave 2 = .ok (.putfield 15, 3) := by decide +kernel
theorem dX6_leave_5 : decode cX6_leave 5 = .ok (.aload_n 0, 1) := by decide +kernel
theorem dX6_leave_6 : decode cX6_leave 6 = .ok (.getfield 19, 3) := by decide +kernel
theorem dX6_leave_9 : decode cX6_leave 9 = .ok (.ireturn, 1) := by decide +kernel
theorem dX6_refusalFor_0 : decode cX6_refusalFor 0 = .ok (.aload_n 0, 1) := by decide +kernel
theorem dX6_refusalFor_1 : decode cX6_refusalFor 1 = .ok (.invokevirtual 22, 3) := by decide +kernel
theorem dX6_refusalFor_4 : decode cX6_refusalFor 4 = .ok (.ifCond .ne 6, 3) := by decide +kernel
theorem dX6_refusalFor_7 : decode cX6_refusalFor 7 = .ok (.bipush (-11), 2) := by decide +kernel
theorem dX6_refusalFor_9 : decode cX6_refusalFor 9 = .ok (.ireturn, 1) := by decide +kernel
theorem dX6_refusalFor_10 : decode cX6_refusalFor 10 = .ok (.aload_n 0, 1) := by decide +kernel
theorem dX6_refusalFor_11 : decode cX6_refusalFor 11 = .ok (.getfield 15, 3) := by decide +kernel
theorem dX6_refusalFor_14 : decode cX6_refusalFor 14 = .ok (.iload_n 1, 1) := by decide +kernel
theorem dX6_refusalFor_15 : decode cX6_refusalFor 15 = .ok (.if_icmp .eq 6, 3) := by decide +kernel
theorem dX6_refusalFor_18 : decode cX6_refusalFor 18 = .ok (.bipush (-12), 2) := by decide +kernel
theorem dX6_refusalFor_20 : decode cX6_refusalFor 20 = .ok (.ireturn, 1) := by decide +kernel
theorem dX6_refusalFor_21 : decode cX6_refusalFor 21 = .ok (.iload_n 2, 1) := by decide +kernel
theorem dX6_refusalFor_22 : decode cX6_refusalFor 22 = .ok (.ifCond .lt 13, 3) := by decide +kernel
theorem dX6_refusalFor_25 : decode cX6_refusalFor 25 = .ok (.iload_n 2, 1) := by decide +kernel
theorem dX6_refusalFor_26 : decode cX6_refusalFor 26 = .ok (.aload_n 0, 1) := by decide +kernel
theorem dX6_refusalFor_27 : decode cX6_refusalFor 27 = .ok (.getfield 19, 3) := by decide +kernel
theorem dX6_refusalFor_30 : decode cX6_refusalFor 30 = .ok (.iload_n 3, 1) := by decide +kernel
theorem dX6_refusalFor_31 : decode cX6_refusalFor 31 = .ok (.isub, 1) := by decide +kernel
theorem dX6_refusalFor_32 : decode cX6_refusalFor 32 = .ok (.if_icmp .le 8, 3) := by decide +kernel
theorem dX6_refusalFor_35 : decode cX6_refusalFor 35 = .ok (.bipush (-13), 2) := by decide +kernel
theorem dX6_refusalFor_37 : decode cX6_refusalFor 37 = .ok (.goto 4, 3) := by decide +kernel
theorem dX6_refusalFor_40 : decode cX6_refusalFor 40 = .ok (.iconst 0, 1) := by decide +kernel
theorem dX6_refusalFor_41 : decode cX6_refusalFor 41 = .ok (.ireturn, 1) := by decide +kernel
theorem dX6_get_0 : decode cX6_get 0 = .ok (.iload_n 1, 1) := by decide +kernel
theorem dX6_get_1 : decode cX6_get 1 = .ok (.aload_n 0, 1) := by decide +kernel
theorem dX6_get_2 : decode cX6_get 2 = .ok (.getfield 19, 3) := by decide +kernel
theorem dX6_get_5 : decode cX6_get 5 = .ok (.invokestatic 26, 3) := by decide +kernel
theorem dX6_get_8 : decode cX6_get 8 = .ok (.ifCond .eq 12, 3) := by decide +kernel
theorem dX6_get_11 : decode cX6_get 11 = .ok (.aload_n 0, 1) := by decide +kernel
theorem dX6_get_12 : decode cX6_get 12 = .ok (.getfield 9, 3) := by decide +kernel
theorem dX6_get_15 : decode cX6_get 15 = .ok (.iload_n 1, 1) := by decide +kernel
theorem dX6_get_16 : decode cX6_get 16 = .ok (.iaload, 1) := by decide +kernel
theorem dX6_get_17 : decode cX6_get 17 = .ok (.goto 4, 3) := by decide +kernel
theorem dX6_get_20 : decode cX6_get 20 = .ok (.iconst 0, 1) := by decide +kernel
theorem dX6_get_21 : decode cX6_get 21 = .ok (.ireturn, 1) := by decide +kernel
theorem dX6_put_0 : decode cX6_put 0 = .ok (.iload_n 1, 1) := by decide +kernel
theorem dX6_put_1 : decode cX6_put 1 = .ok (.aload_n 0, 1) := by decide +kernel
theorem dX6_put_2 : decode cX6_put 2 = .ok (.getfield 19, 3) := by decide +kernel
theorem dX6_put_5 : decode cX6_put 5 = .ok (.invokestatic 26, 3) := by decide +kernel
theorem dX6_put_8 : decode cX6_put 8 = .ok (.ifCond .eq 35, 3) := by decide +kernel
theorem dX6_put_11 : decode cX6_put 11 = .ok (.aload_n 0, 1) := by decide +kernel
theorem dX6_put_12 : decode cX6_put 12 = .ok (.getfield 9, 3) := by decide +kernel
theorem dX6_put_15 : decode cX6_put 15 = .ok (.iload_n 1, 1) := by decide +kernel
theorem dX6_put_16 : decode cX6_put 16 = .ok (.aload_n 0, 1) := by decide +kernel
theorem dX6_put_17 : decode cX6_put 17 = .ok (.getfield 15, 3) := by decide +kernel
theorem dX6_put_20 : decode cX6_put 20 = .ok (.ifCond .ne 8, 3) := by decide +kernel
theorem dX6_put_23 : decode cX6_put 23 = .ok (.iload_n 2, 1) := by decide +kernel
theorem dX6_put_24 : decode cX6_put 24 = .ok (.i2b, 1) := by decide +kernel
theorem dX6_put_25 : decode cX6_put 25 = .ok (.goto 17, 3) := by decide +kernel
theorem dX6_put_28 : decode cX6_put 28 = .ok (.aload_n 0, 1) := by decide +kernel
theorem dX6_put_29 : decode cX6_put 29 = .ok (.getfield 15, 3) := by decide +kernel
theorem dX6_put_32 : decode cX6_put 32 = .ok (.iconst 1, 1) := by decide +kernel
theorem dX6_put_33 : decode cX6_put 33 = .ok (.if_icmp .ne 8, 3) := by decide +kernel
theorem dX6_put_36 : decode cX6_put 36 = .ok (.iload_n 2, 1) := by decide +kernel
theorem dX6_put_37 : decode cX6_put 37 = .ok (.i2s, 1) := by decide +kernel
theorem dX6_put_38 : decode cX6_put 38 = .ok (.goto 4, 3) := by decide +kernel
theorem dX6_put_41 : decode cX6_put 41 = .ok (.iload_n 2, 1) := by decide +kernel
theorem dX6_put_42 : decode cX6_put 42 = .ok (.iastore, 1) := by decide +kernel
theorem dX6_put_43 : decode cX6_put 43 = .ok (.return_, 1) := by decide +kernel
theorem dX7_init_0 : decode cX7_init 0 = .ok (.aload_n 0, 1) := by decide +kernel
theorem dX7_init_1 : decode cX7_init 1 = .ok (.invokespecial 3, 3) := by decide +kernel
theorem dX7_init_4 : decode cX7_init 4 = .ok (.aload_n 0, 1) := by decide +kernel
theorem dX7_init_5 : decode cX7_init 5 = .ok (.bipush 80, 2) := by decide +kernel
theorem dX7_init_7 : decode cX7_init 7 = .ok (.newarray .int, 2) := by decide +kernel
theorem dX7_init_9 : decode cX7_init 9 = .ok (.putfield 9, 3) := by decide +kernel
theorem dX7_init_12 : decode cX7_init 12 = .ok (.aload_n 0, 1) := by decide +kernel
theorem dX7_init_13 : decode cX7_init 13 = .ok (.bipush 8, 2) := by decide +kernel
theorem dX7_init_15 : decode cX7_init 15 = .ok (.newarray .int, 2) := by decide +kernel
theorem dX7_init_17 : decode cX7_init 17 = .ok (.putfield 15, 3) := by decide +kernel
theorem dX7_init_20 : decode cX7_init 20 = .ok (.aload_n 0, 1) := by decide +kernel
theorem dX7_init_21 : decode cX7_init 21 = .ok (.bipush 8, 2) := by decide +kernel
theorem dX7_init_23 : decode cX7_init 23 = .ok (.newarray .int, 2) := by decide +kernel
theorem dX7_init_25 : decode cX7_init 25 = .ok (.putfield 18, 3) := by decide +kernel
theorem dX7_init_28 : decode cX7_init 28 = .ok (.aload_n 0, 1) := by decide +kernel
theorem dX7_init_29 : decode cX7_init 29 = .ok (.bipush 8, 2) := by decide +kernel
theorem dX7_init_31 : decode cX7_init 31 = .ok (.newarray .int, 2) := by decide +kernel
theorem dX7_init_33 : decode cX7_init 33 = .ok (.putfield 21, 3) := by decide +kernel
theorem dX7_init_36 : decode cX7_init 36 = .ok (.return_, 1) := by decide +kernel
theorem dX7_byteOf_0 : decode cX7_byteOf 0 = .ok (.lload_n 0, 1) := by decide +kernel
theorem dX7_byteOf_1 : decode cX7_byteOf 1 = .ok (.bipush 8, 2) := by decide +kernel
theorem dX7_byteOf_3 : decode cX7_byteOf 3 = .ok (.iload_n 2, 1) := by decide +kernel
theorem dX7_byteOf_4 : decode cX7_byteOf 4 = .ok (.imul, 1) := by decide +kernel
theorem dX7_byteOf_5 : decode cX7_byteOf 5 = .ok (.lshr, 1) := by decide +kernel
theorem dX7_byteOf_6 : decode cX7_byteOf 6 = .ok (.l2i, 1) := by decide +kernel
theorem dX7_byteOf_7 : decode cX7_byteOf 7 = .ok (.sipush 255, 3) := by decide +kernel
theorem dX7_byteOf_10 : decode cX7_byteOf 10 = .ok (.iand, 1) := by decide +kernel
theorem dX7_byteOf_11 : decode cX7_byteOf 11 = .ok (.ireturn, 1) := by decide +kernel
theorem dX7_isPlain_0 : decode cX7_isPlain 0 = .ok (.iconst 0, 1) := by decide +kernel
theorem dX7_isPlain_1 : decode cX7_isPlain 1 = .ok (.istore_n 3, 1) := by decide +kernel
theorem dX7_isPlain_2 : decode cX7_isPlain 2 = .ok (.iload_n 3, 1) := by decide +kernel
theorem dX7_isPlain_3 : decode cX7_isPlain 3 = .ok (.iload_n 2, 1) := by decide +kernel
theorem dX7_isPlain_4 : decode cX7_isPlain 4 = .ok (.if_icmp .ge 32, 3) := by decide +kernel
theorem dX7_isPlain_7 : decode cX7_isPlain 7 = .ok (.lload_n 0, 1) := by decide +kernel
theorem dX7_isPlain_8 : decode cX7_isPlain 8 = .ok (.iload_n 3, 1) := by decide +kernel
theorem dX7_isPlain_9 : decode cX7_isPlain 9 = .ok (.invokestatic 24, 3) := by decide +kernel
theorem dX7_isPlain_12 : decode cX7_isPlain 12 = .ok (.istore 4, 2) := by decide +kernel
theorem dX7_isPlain_14 : decode cX7_isPlain 14 = .ok (.iload 4, 2) := by decide +kernel
theorem dX7_isPlain_16 : decode cX7_isPlain 16 = .ok (.bipush 32, 2) := by decide +kernel
theorem dX7_isPlain_18 : decode cX7_isPlain 18 = .ok (.if_icmp .lt 10, 3) := by decide +kernel
theorem dX7_isPlain_21 : decode cX7_isPlain 21 = .ok (.iload 4, 2) := by decide +kernel
theorem dX7_isPlain_23 : decode cX7_isPlain 23 = .ok (.bipush 126, 2) := by decide +kernel
theorem dX7_isPlain_25 : decode cX7_isPlain 25 = .ok (.if_icmp .le 5, 3) := by decide +kernel
theorem dX7_isPlain_28 : decode cX7_isPlain 28 = .ok (.iconst 0, 1) := by decide +kernel
theorem dX7_isPlain_29 : decode cX7_isPlain 29 = .ok (.ireturn, 1) := by decide +kernel
theorem dX7_isPlain_30 : decode cX7_isPlain 30 = .ok (.iinc 3 1, 3) := by decide +kernel
theorem dX7_isPlain_33 : decode cX7_isPlain 33 = .ok (.goto (-31), 3) := by decide +kernel
theorem dX7_isPlain_36 : decode cX7_isPlain 36 = .ok (.iconst 1, 1) := by decide +kernel
theorem dX7_isPlain_37 : decode cX7_isPlain 37 = .ok (.ireturn, 1) := by decide +kernel
theorem dX7_append_0 : decode cX7_append 0 = .ok (.iload_n 3, 1) := by decide +kernel
theorem dX7_append_1 : decode cX7_append 1 = .ok (.iconst 1, 1) := by decide +kernel
theorem dX7_append_2 : decode cX7_append 2 = .ok (.isub, 1) := by decide +kernel
theorem dX7_append_3 : decode cX7_append 3 = .ok (.istore 4, 2) := by decide +kernel
theorem dX7_append_5 : decode cX7_append 5 = .ok (.iload 4, 2) := by decide +kernel
theorem dX7_append_7 : decode cX7_append 7 = .ok (.ifCond .lt 43, 3) := by decide +kernel
theorem dX7_append_10 : decode cX7_append 10 = .ok (.aload_n 0, 1) := by decide +kernel
theorem dX7_append_11 : decode cX7_append 11 = .ok (.getfield 28, 3) := by decide +kernel
theorem dX7_append_14 : decode cX7_append 14 = .ok (.bipush 80, 2) := by decide +kernel
theorem dX7_append_16 : decode cX7_append 16 = .ok (.if_icmp .ge 34, 3) := by decide +kernel
theorem dX7_append_19 : decode cX7_append 19 = .ok (.aload_n 0, 1) := by decide +kernel
theorem dX7_append_20 : decode cX7_append 20 = .ok (.getfield 9, 3) := by decide +kernel
theorem dX7_append_23 : decode cX7_append 23 = .ok (.aload_n 0, 1) := by decide +kernel
theorem dX7_append_24 : decode cX7_append 24 = .ok (.getfield 28, 3) := by decide +kernel
theorem dX7_append_27 : decode cX7_append 27 = .ok (.lload_n 1, 1) := by decide +kernel
theorem dX7_append_28 : decode cX7_append 28 = .ok (.iload 4, 2) := by decide +kernel
theorem dX7_append_30 : decode cX7_append 30 = .ok (.invokestatic 24, 3) := by decide +kernel
theorem dX7_append_33 : decode cX7_append 33 = .ok (.iastore, 1) := by decide +kernel
theorem dX7_append_34 : decode cX7_append 34 = .ok (.aload_n 0, 1) := by decide +kernel
theorem dX7_append_35 : decode cX7_append 35 = .ok (.dup, 1) := by decide +kernel
theorem dX7_append_36 : decode cX7_append 36 = .ok (.getfield 28, 3) := by decide +kernel
theorem dX7_append_39 : decode cX7_append 39 = .ok (.iconst 1, 1) := by decide +kernel
theorem dX7_append_40 : decode cX7_append 40 = .ok (.iadd, 1) := by decide +kernel
theorem dX7_append_41 : decode cX7_append 41 = .ok (.putfield 28, 3) := by decide +kernel
theorem dX7_append_44 : decode cX7_append 44 = .ok (.iinc 4 (-1), 3) := by decide +kernel
theorem dX7_append_47 : decode cX7_append 47 = .ok (.goto (-42), 3) := by decide +kernel
theorem dX7_append_50 : decode cX7_append 50 = .ok (.return_, 1) := by decide +kernel
theorem dX7_read_0 : decode cX7_read 0 = .ok (.aload_n 0, 1) := by decide +kernel
theorem dX7_read_1 : decode cX7_read 1 = .ok (.iconst 0, 1) := by decide +kernel
theorem dX7_read_2 : decode cX7_read 2 = .ok (.putfield 32, 3) := by decide +kernel
theorem dX7_read_5 : decode cX7_read 5 = .ok (.aload_n 0, 1) := by decide +kernel
theorem dX7_read_6 : decode cX7_read 6 = .ok (.iconst 0, 1) := by decide +kernel
theorem dX7_read_7 : decode cX7_read 7 = .ok (.putfield 35, 3) := by decide +kernel
theorem dX7_read_10 : decode cX7_read 10 = .ok (.iconst 0, 1) := by decide +kernel
theorem dX7_read_11 : decode cX7_read 11 = .ok (.istore_n 1, 1) := by decide +kernel
theorem dX7_read_12 : decode cX7_read 12 = .ok (.iload_n 1, 1) := by decide +kernel
theorem dX7_read_13 : decode cX7_read 13 = .ok (.bipush 8, 2) := by decide +kernel
theorem dX7_read_15 : decode cX7_read 15 = .ok (.if_icmp .ge 100, 3) := by decide +kernel
theorem dX7_read_18 : decode cX7_read 18 = .ok (.aload_n 0, 1) := by decide +kernel
theorem dX7_read_19 : decode cX7_read 19 = .ok (.invokevirtual 38, 3) := by decide +kernel
theorem dX7_read_22 : decode cX7_read 22 = .ok (.ifCond .eq 17, 3) := by decide +kernel
theorem dX7_read_25 : decode cX7_read 25 = .ok (.aload_n 0, 1) := by decide +kernel
theorem dX7_read_26 : decode cX7_read 26 = .ok (.invokevirtual 42, 3) := by decide +kernel
theorem dX7_read_29 : decode cX7_read 29 = .ok (.ifCond .eq 10, 3) := by decide +kernel
theorem dX7_read_32 : decode cX7_read 32 = .ok (.aload_n 0, 1) := by decide +kernel
theorem dX7_read_33 : decode cX7_read 33 = .ok (.invokevirtual 45, 3) := by decide +kernel
theorem dX7_read_36 : decode cX7_read 36 = .ok (.ifCond .ne 8, 3) := by decide +kernel
theorem dX7_read_39 : decode cX7_read 39 = .ok (.aload_n 0, 1) := by decide +kernel
theorem dX7_read_40 : decode cX7_read 40 = .ok (.invokevirtual 48, 3) := by decide +kernel
theorem dX7_read_43 : decode cX7_read 43 = .ok (.ireturn, 1) := by decide +kernel
theorem dX7_read_44 : decode cX7_read 44 = .ok (.aload_n 0, 1) := by decide +kernel
theorem dX7_read_45 : decode cX7_read 45 = .ok (.dup, 1) := by decide +kernel
theorem dX7_read_46 : decode cX7_read 46 = .ok (.getfield 35, 3) := by decide +kernel
theorem dX7_read_49 : decode cX7_read 49 = .ok (.iconst 1, 1) := by decide +kernel
theorem dX7_read_50 : decode cX7_read 50 = .ok (.iadd, 1) := by decide +kernel
theorem dX7_read_51 : decode cX7_read 51 = .ok (.putfield 35, 3) := by decide +kernel
theorem dX7_read_54 : decode cX7_read 54 = .ok (.aload_n 0, 1) := by decide +kernel
theorem dX7_read_55 : decode cX7_read 55 = .ok (.invokevirtual 52, 3) := by decide +kernel
theorem dX7_read_58 : decode cX7_read 58 = .ok (.aload_n 0, 1) := by decide +kernel
theorem dX7_read_59 : decode cX7_read 59 = .ok (.getfield 32, 3) := by decide +kernel
theorem dX7_read_62 : decode cX7_read 62 = .ok (.aload_n 0, 1) := by decide +kernel
theorem dX7_read_63 : decode cX7_read 63 = .ok (.getfield 28, 3) := by decide +kernel
theorem dX7_read_66 : decode cX7_read 66 = .ok (.if_icmp .ne 5, 3) := by decide +kernel
theorem dX7_read_69 : decode cX7_read 69 = .ok (.iconst 0, 1) := by decide +kernel
theorem dX7_read_70 : decode cX7_read 70 = .ok (.ireturn, 1) := by decide +kernel
theorem dX7_read_71 : decode cX7_read 71 = .ok (.aload_n 0, 1) := by decide +kernel
theorem dX7_read_72 : decode cX7_read 72 = .ok (.getfield 9, 3) := by decide +kernel
theorem dX7_read_75 : decode cX7_read 75 = .ok (.aload_n 0, 1) := by decide +kernel
theorem dX7_read_76 : decode cX7_read 76 = .ok (.getfield 32, 3) := by decide +kernel
theorem dX7_read_79 : decode cX7_read 79 = .ok (.iaload, 1) := by decide +kernel
theorem dX7_read_80 : decode cX7_read 80 = .ok (.bipush 59, 2) := by decide +kernel
theorem dX7_read_82 : decode cX7_read 82 = .ok (.if_icmp .ne 12, 3) := by decide +kernel
theorem dX7_read_85 : decode cX7_read 85 = .ok (.aload_n 0, 1) := by decide +kernel
theorem dX7_read_86 : decode cX7_read 86 = .ok (.getfield 35, 3) := by decide +kernel
theorem dX7_read_89 : decode cX7_read 89 = .ok (.bipush 8, 2) := by decide +kernel
theorem dX7_read_91 : decode cX7_read 91 = .ok (.if_icmp .ne 8, 3) := by decide +kernel
theorem dX7_read_94 : decode cX7_read 94 = .ok (.aload_n 0, 1) := by decide +kernel
theorem dX7_read_95 : decode cX7_read 95 = .ok (.invokevirtual 48, 3) := by decide +kernel
theorem dX7_read_98 : decode cX7_read 98 = .ok (.ireturn, 1) := by decide +kernel
theorem dX7_read_99 : decode cX7_read 99 = .ok (.aload_n 0, 1) := by decide +kernel
theorem dX7_read_100 : decode cX7_read 100 = .ok (.dup, 1) := by decide +kernel
theorem dX7_read_101 : decode cX7_read 101 = .ok (.getfield 32, 3) := by decide +kernel
theorem dX7_read_104 : decode cX7_read 104 = .ok (.iconst 1, 1) := by decide +kernel
theorem dX7_read_105 : decode cX7_read 105 = .ok (.iadd, 1) := by decide +kernel
theorem dX7_read_106 : decode cX7_read 106 = .ok (.putfield 32, 3) := by decide +kernel
theorem dX7_read_109 : decode cX7_read 109 = .ok (.iinc 1 1, 3) := by decide +kernel
theorem dX7_read_112 : decode cX7_read 112 = .ok (.goto (-100), 3) := by decide +kernel
theorem dX7_read_115 : decode cX7_read 115 = .ok (.aload_n 0, 1) := by decide +kernel
theorem dX7_read_116 : decode cX7_read 116 = .ok (.invokevirtual 48, 3) := by decide +kernel
theorem dX7_read_119 : decode cX7_read 119 = .ok (.ireturn, 1) := by decide +kernel
theorem dX7_faultHere_0 : decode cX7_faultHere 0 = .ok (.bipush (-20), 2) := by decide +kernel
theorem dX7_faultHere_2 : decode cX7_faultHere 2 = .ok (.aload_n 0, 1) := by decide +kernel
theorem dX7_faultHere_3 : decode cX7_faultHere 3 = .ok (.getfield 32, 3) := by decide +kernel
theorem dX7_faultHere_6 : decode cX7_faultHere 6 = .ok (.isub, 1) := by decide +kernel
theorem dX7_faultHere_7 : decode cX7_faultHere 7 = .ok (.ireturn, 1) := by decide +kernel
theorem dX7_skipBlanks_0 : decode cX7_skipBlanks 0 = .ok (.aload_n 0, 1) := by decide +kernel
theorem dX7_skipBlanks_1 : decode cX7_skipBlanks 1 = .ok (.getfield 32, 3) := by decide +kernel
theorem dX7_skipBlanks_4 : decode cX7_skipBlanks 4 = .ok (.aload_n 0, 1) := by decide +kernel
theorem dX7_skipBlanks_5 : decode cX7_skipBlanks 5 = .ok (.getfield 28, 3) := by decide +kernel
theorem dX7_skipBlanks_8 : decode cX7_skipBlanks 8 = .ok (.if_icmp .ge 30, 3) := by decide +kernel
theorem dX7_skipBlanks_11 : decode cX7_skipBlanks 11 = .ok (.aload_n 0, 1) := by decide +kernel
theorem dX7_skipBlanks_12 : decode cX7_skipBlanks 12 = .ok (.getfield 9, 3) := by decide +kernel
theorem dX7_skipBlanks_15 : decode cX7_skipBlanks 15 = .ok (.aload_n 0, 1) := by decide +kernel
theorem dX7_skipBlanks_16 : decode cX7_skipBlanks 16 = .ok (.getfield 32, 3) := by decide +kernel
theorem dX7_skipBlanks_19 : decode cX7_skipBlanks 19 = .ok (.iaload, 1) := by decide +kernel
theorem dX7_skipBlanks_20 : decode cX7_skipBlanks 20 = .ok (.bipush 32, 2) := by decide +kernel
theorem dX7_skipBlanks_22 : decode cX7_skipBlanks 22 = .ok (.if_icmp .ne 16, 3) := by decide +kernel
theorem dX7_skipBlanks_25 : decode cX7_skipBlanks 25 = .ok (.aload_n 0, 1) := by decide +kernel
theorem dX7_skipBlanks_26 : decode cX7_skipBlanks 26 = .ok (.dup, 1) := by decide +kernel
theorem dX7_skipBlanks_27 : decode cX7_skipBlanks 27 = .ok (.getfield 32, 3) := by decide +kernel
theorem dX7_skipBlanks_30 : decode cX7_skipBlanks 30 = .ok (.iconst 1, 1) := by decide +kernel
theorem dX7_skipBlanks_31 : decode cX7_skipBlanks 31 = .ok (.iadd, 1) := by decide +kernel
theorem dX7_skipBlanks_32 : decode cX7_skipBlanks 32 = .ok (.putfield 32, 3) := by decide +kernel
theorem dX7_skipBlanks_35 : decode cX7_skipBlanks 35 = .ok (.goto (-35), 3) := by decide +kernel
theorem dX7_skipBlanks_38 : decode cX7_skipBlanks 38 = .ok (.return_, 1) := by decide +kernel
theorem dX7_byteHere_0 : decode cX7_byteHere 0 = .ok (.aload_n 0, 1) := by decide +kernel
theorem dX7_byteHere_1 : decode cX7_byteHere 1 = .ok (.getfield 32, 3) := by decide +kernel
theorem dX7_byteHere_4 : decode cX7_byteHere 4 = .ok (.aload_n 0, 1) := by decide +kernel
theorem dX7_byteHere_5 : decode cX7_byteHere 5 = .ok (.getfield 28, 3) := by decide +kernel
theorem dX7_byteHere_8 : decode cX7_byteHere 8 = .ok (.if_icmp .ge 15, 3) := by decide +kernel
theorem dX7_byteHere_11 : decode cX7_byteHere 11 = .ok (.aload_n 0, 1) := by decide +kernel
theorem dX7_byteHere_12 : decode cX7_byteHere 12 = .ok (.getfield 9, 3) := by decide +kernel
theorem dX7_byteHere_15 : decode cX7_byteHere 15 = .ok (.aload_n 0, 1) := by decide +kernel
theorem dX7_byteHere_16 : decode cX7_byteHere 16 = .ok (.getfield 32, 3) := by decide +kernel
theorem dX7_byteHere_19 : decode cX7_byteHere 19 = .ok (.iaload, 1) := by decide +kernel
theorem dX7_byteHere_20 : decode cX7_byteHere 20 = .ok (.goto 4, 3) := by decide +kernel
theorem dX7_byteHere_23 : decode cX7_byteHere 23 = .ok (.iconst (-1), 1) := by decide +kernel
theorem dX7_byteHere_24 : decode cX7_byteHere 24 = .ok (.ireturn, 1) := by decide +kernel
theorem dX7_readTick_0 : decode cX7_readTick 0 = .ok (.aload_n 0, 1) := by decide +kernel
theorem dX7_readTick_1 : decode cX7_readTick 1 = .ok (.invokevirtual 52, 3) := by decide +kernel
theorem dX7_readTick_4 : decode cX7_readTick 4 = .ok (.aload_n 0, 1) := by decide +kernel
theorem dX7_readTick_5 : decode cX7_readTick 5 = .ok (.getfield 32, 3) := by decide +kernel
theorem dX7_readTick_8 : decode cX7_readTick 8 = .ok (.istore_n 1, 1) := by decide +kernel
theorem dX7_readTick_9 : decode cX7_readTick 9 = .ok (.iconst 0, 1) := by decide +kernel
theorem dX7_readTick_10 : decode cX7_readTick 10 = .ok (.istore_n 2, 1) := by decide +kernel
theorem dX7_readTick_11 : decode cX7_readTick 11 = .ok (.aload_n 0, 1) := by decide +kernel
theorem dX7_readTick_12 : decode cX7_readTick 12 = .ok (.getfield 32, 3) := by decide +kernel
theorem dX7_readTick_15 : decode cX7_readTick 15 = .ok (.aload_n 0, 1) := by decide +kernel
theorem dX7_readTick_16 : decode cX7_readTick 16 = .ok (.getfield 28, 3) := by decide +kernel
theorem dX7_readTick_19 : decode cX7_readTick 19 = .ok (.if_icmp .ge 67, 3) := by decide +kernel
theorem dX7_readTick_22 : decode cX7_readTick 22 = .ok (.aload_n 0, 1) := by decide +kernel
theorem dX7_readTick_23 : decode cX7_readTick 23 = .ok (.getfield 9, 3) := by decide +kernel
theorem dX7_readTick_26 : decode cX7_readTick 26 = .ok (.aload_n 0, 1) := by decide +kernel
theorem dX7_readTick_27 : decode cX7_readTick 27 = .ok (.getfield 32, 3) := by decide +kernel
theorem dX7_readTick_30 : decode cX7_readTick 30 = .ok (.iaload, 1) := by decide +kernel
theorem dX7_readTick_31 : decode cX7_readTick 31 = .ok (.bipush 48, 2) := by decide +kernel
theorem dX7_readTick_33 : decode cX7_readTick 33 = .ok (.if_icmp .lt 53, 3) := by decide +kernel
theorem dX7_readTick_36 : decode cX7_readTick 36 = .ok (.aload_n 0, 1) := by decide +kernel
theorem dX7_readTick_37 : decode cX7_readTick 37 = .ok (.getfield 9, 3) := by decide +kernel
theorem dX7_readTick_40 : decode cX7_readTick 40 = .ok (.aload_n 0, 1) := by decide +kernel
theorem dX7_readTick_41 : decode cX7_readTick 41 = .ok (.getfield 32, 3) := by decide +kernel
theorem dX7_readTick_44 : decode cX7_readTick 44 = .ok (.iaload, 1) := by decide +kernel
theorem dX7_readTick_45 : decode cX7_readTick 45 = .ok (.bipush 57, 2) := by decide +kernel
theorem dX7_readTick_47 : decode cX7_readTick 47 = .ok (.if_icmp .gt 39, 3) := by decide +kernel
theorem dX7_readTick_50 : decode cX7_readTick 50 = .ok (.bipush 120, 2) := by decide +kernel
theorem dX7_readTick_52 : decode cX7_readTick 52 = .ok (.iload_n 2, 1) := by decide +kernel
theorem dX7_readTick_53 : decode cX7_readTick 53 = .ok (.bipush 10, 2) := by decide +kernel
theorem dX7_readTick_55 : decode cX7_readTick 55 = .ok (.imul, 1) := by decide +kernel
theorem dX7_readTick_56 : decode cX7_readTick 56 = .ok (.aload_n 0, 1) := by decide +kernel
theorem dX7_readTick_57 : decode cX7_readTick 57 = .ok (.getfield 9, 3) := by decide +kernel
theorem dX7_readTick_60 : decode cX7_readTick 60 = .ok (.aload_n 0, 1) := by decide +kernel
theorem dX7_readTick_61 : decode cX7_readTick 61 = .ok (.getfield 32, 3) := by decide +kernel
theorem dX7_readTick_64 : decode cX7_readTick 64 = .ok (.iaload, 1) := by decide +kernel
theorem dX7_readTick_65 : decode cX7_readTick 65 = .ok (.iadd, 1) := by decide +kernel
theorem dX7_readTick_66 : decode cX7_readTick 66 = .ok (.bipush 48, 2) := by decide +kernel
theorem dX7_readTick_68 : decode cX7_readTick 68 = .ok (.isub, 1) := by decide +kernel
theorem dX7_readTick_69 : decode cX7_readTick 69 = .ok (.invokestatic 55, 3) := by decide +kernel
theorem dX7_readTick_72 : decode cX7_readTick 72 = .ok (.istore_n 2, 1) := by decide +kernel
theorem dX7_readTick_73 : decode cX7_readTick 73 = .ok (.aload_n 0, 1) := by decide +kernel
theorem dX7_readTick_74 : decode cX7_readTick 74 = .ok (.dup, 1) := by decide +kernel
theorem dX7_readTick_75 : decode cX7_readTick 75 = .ok (.getfield 32, 3) := by decide +kernel
theorem dX7_readTick_78 : decode cX7_readTick 78 = .ok (.iconst 1, 1) := by decide +kernel
theorem dX7_readTick_79 : decode cX7_readTick 79 = .ok (.iadd, 1) := by decide +kernel
theorem dX7_readTick_80 : decode cX7_readTick 80 = .ok (.putfield 32, 3) := by decide +kernel
theorem dX7_readTick_83 : decode cX7_readTick 83 = .ok (.goto (-72), 3) := by decide +kernel
theorem dX7_readTick_86 : decode cX7_readTick 86 = .ok (.aload_n 0, 1) := by decide +kernel
theorem dX7_readTick_87 : decode cX7_readTick 87 = .ok (.getfield 32, 3) := by decide +kernel
theorem dX7_readTick_90 : decode cX7_readTick 90 = .ok (.iload_n 1, 1) := by decide +kernel
theorem dX7_readTick_91 : decode cX7_readTick 91 = .ok (.if_icmp .eq 9, 3) := by decide +kernel
theorem dX7_readTick_94 : decode cX7_readTick 94 = .ok (.iload_n 2, 1) := by decide +kernel
theorem dX7_readTick_95 : decode cX7_readTick 95 = .ok (.bipush 120, 2) := by decide +kernel
theorem dX7_readTick_97 : decode cX7_readTick 97 = .ok (.if_icmp .lt 10, 3) := by decide +kernel
theorem dX7_readTick_100 : decode cX7_readTick 100 = .ok (.aload_n 0, 1) := by decide +kernel
theorem dX7_readTick_101 : decode cX7_readTick 101 = .ok (.iload_n 1, 1) := by decide +kernel
theorem dX7_readTick_102 : decode cX7_readTick 102 = .ok (.putfield 32, 3) := by decide +kernel
theorem dX7_readTick_105 : decode cX7_readTick 105 = .ok (.iconst 0, 1) := by decide +kernel
theorem dX7_readTick_106 : decode cX7_readTick 106 = .ok (.ireturn, 1) := by decide +kernel
theorem dX7_readTick_107 : decode cX7_readTick 107 = .ok (.aload_n 0, 1) := by decide +kernel
theorem dX7_readTick_108 : decode cX7_readTick 108 = .ok (.getfield 15, 3) := by decide +kernel
theorem dX7_readTick_111 : decode cX7_readTick 111 = .ok (.aload_n 0, 1) := by decide +kernel
theorem dX7_readTick_112 : decode cX7_readTick 112 = .ok (.getfield 35, 3) := by decide +kernel
theorem dX7_readTick_115 : decode cX7_readTick 115 = .ok (.iload_n 2, 1) := by decide +kernel
theorem dX7_readTick_116 : decode cX7_readTick 116 = .ok (.iastore, 1) := by decide +kernel
theorem dX7_readTick_117 : decode cX7_readTick 117 = .ok (.iconst 1, 1) := by decide +kernel
theorem dX7_readTick_118 : decode cX7_readTick 118 = .ok (.ireturn, 1) := by decide +kernel
theorem dX7_readSide_0 : decode cX7_readSide 0 = .ok (.aload_n 0, 1) := by decide +kernel
theorem dX7_readSide_1 : decode cX7_readSide 1 = .ok (.invokevirtual 52, 3) := by decide +kernel
theorem dX7_readSide_4 : decode cX7_readSide 4 = .ok (.aload_n 0, 1) := by decide +kernel
theorem dX7_readSide_5 : decode cX7_readSide 5 = .ok (.invokevirtual 61, 3) := by decide +kernel
theorem dX7_readSide_8 : decode cX7_readSide 8 = .ok (.istore_n 1, 1) := by decide +kernel
theorem dX7_readSide_9 : decode cX7_readSide 9 = .ok (.iload_n 1, 1) := by decide +kernel
theorem dX7_readSide_10 : decode cX7_readSide 10 = .ok (.bipush 115, 2) := by decide +kernel
theorem dX7_readSide_12 : decode cX7_readSide 12 = .ok (.if_icmp .eq 11, 3) := by decide +kernel
theorem dX7_readSide_15 : decode cX7_readSide 15 = .ok (.iload_n 1, 1) := by decide +kernel
theorem dX7_readSide_16 : decode cX7_readSide 16 = .ok (.bipush 104, 2) := by decide +kernel
theorem dX7_readSide_18 : decode cX7_readSide 18 = .ok (.if_icmp .eq 5, 3) := by decide +kernel
theorem dX7_readSide_21 : decode cX7_readSide 21 = .ok (.iconst 0, 1) := by decide +kernel
theorem dX7_readSide_22 : decode cX7_readSide 22 = .ok (.ireturn, 1) := by decide +kernel
theorem dX7_readSide_23 : decode cX7_readSide 23 = .ok (.aload_n 0, 1) := by decide +kernel
theorem dX7_readSide_24 : decode cX7_readSide 24 = .ok (.getfield 18, 3) := by decide +kernel
theorem dX7_readSide_27 : decode cX7_readSide 27 = .ok (.aload_n 0, 1) := by decide +kernel
theorem dX7_readSide_28 : decode cX7_readSide 28 = .ok (.getfield 35, 3) := by decide +kernel
theorem dX7_readSide_31 : decode cX7_readSide 31 = .ok (.iload_n 1, 1) := by decide +kernel
theorem dX7_readSide_32 : decode cX7_readSide 32 = .ok (.bipush 115, 2) := by decide +kernel
theorem dX7_readSide_34 : decode cX7_readSide 34 = .ok (.if_icmp .ne 7, 3) := by decide +kernel
theorem dX7_readSide_37 : decode cX7_readSide 37 = .ok (.iconst 0, 1) := by decide +kernel
theorem dX7_readSide_38 : decode cX7_readSide 38 = .ok (.goto 4, 3) := by decide +kernel
theorem dX7_readSide_41 : decode cX7_readSide 41 = .ok (.iconst 1, 1) := by decide +kernel
theorem dX7_readSide_42 : decode cX7_readSide 42 = .ok (.iastore, 1) := by decide +kernel
theorem dX7_readSide_43 : decode cX7_readSide 43 = .ok (.aload_n 0, 1) := by decide +kernel
theorem dX7_readSide_44 : decode cX7_readSide 44 = .ok (.dup, 1) := by decide +kernel
theorem dX7_readSide_45 : decode cX7_readSide 45 = .ok (.getfield 32, 3) := by decide +kernel
theorem dX7_readSide_48 : decode cX7_readSide 48 = .ok (.iconst 1, 1) := by decide +kernel
theorem dX7_readSide_49 : decode cX7_readSide 49 = .ok (.iadd, 1) := by decide +kernel
theorem dX7_readSide_50 : decode cX7_readSide 50 = .ok (.putfield 32, 3) := by decide +kernel
theorem dX7_readSide_53 : decode cX7_readSide 53 = .ok (.iconst 1, 1) := by decide +kernel
theorem dX7_readSide_54 : decode cX7_readSide 54 = .ok (.ireturn, 1) := by decide +kernel
theorem dX7_readKind_0 : decode cX7_readKind 0 = .ok (.aload_n 0, 1) := by decide +kernel
theorem dX7_readKind_1 : decode cX7_readKind 1 = .ok (.invokevirtual 52, 3) := by decide +kernel
theorem dX7_readKind_4 : decode cX7_readKind 4 = .ok (.aload_n 0, 1) := by decide +kernel
theorem dX7_readKind_5 : decode cX7_readKind 5 = .ok (.invokevirtual 61, 3) := by decide +kernel
theorem dX7_readKind_8 : decode cX7_readKind 8 = .ok (.istore_n 1, 1) := by decide +kernel
theorem dX7_readKind_9 : decode cX7_readKind 9 = .ok (.iload_n 1, 1) := by decide +kernel
theorem dX7_readKind_10 : decode cX7_readKind 10 = .ok (.ifCond .ge 7, 3) := by decide +kernel
theorem dX7_readKind_13 : decode cX7_readKind 13 = .ok (.iconst (-1), 1) := by decide +kernel
theorem dX7_readKind_14 : decode cX7_readKind 14 = .ok (.goto 10, 3) := by decide +kernel
theorem dX7_readKind_17 : decode cX7_readKind 17 = .ok (.ldc 64, 2) := by decide +kernel
theorem dX7_readKind_19 : decode cX7_readKind 19 = .ok (.iload_n 1, 1) := by decide +kernel
theorem dX7_readKind_20 : decode cX7_readKind 20 = .ok (.i2c, 1) := by decide +kernel
theorem dX7_readKind_21 : decode cX7_readKind 21 = .ok (.invokevirtual 66, 3) := by decide +kernel
theorem dX7_readKind_24 : decode cX7_readKind 24 = .ok (.istore_n 2, 1) := by decide +kernel
theorem dX7_readKind_25 : decode cX7_readKind 25 = .ok (.iload_n 2, 1) := by decide +kernel
theorem dX7_readKind_26 : decode cX7_readKind 26 = .ok (.ifCond .ge 5, 3) := by decide +kernel
theorem dX7_readKind_29 : decode cX7_readKind 29 = .ok (.iconst 0, 1) := by decide +kernel
theorem dX7_readKind_30 : decode cX7_readKind 30 = .ok (.ireturn, 1) := by decide +kernel
theorem dX7_readKind_31 : decode cX7_readKind 31 = .ok (.aload_n 0, 1) := by decide +kernel
theorem dX7_readKind_32 : decode cX7_readKind 32 = .ok (.getfield 21, 3) := by decide +kernel
theorem dX7_readKind_35 : decode cX7_readKind 35 = .ok (.aload_n 0, 1) := by decide +kernel
theorem dX7_readKind_36 : decode cX7_readKind 36 = .ok (.getfield 35, 3) := by decide +kernel
theorem dX7_readKind_39 : decode cX7_readKind 39 = .ok (.iload_n 2, 1) := by decide +kernel
theorem dX7_readKind_40 : decode cX7_readKind 40 = .ok (.iastore, 1) := by decide +kernel
theorem dX7_readKind_41 : decode cX7_readKind 41 = .ok (.aload_n 0, 1) := by decide +kernel
theorem dX7_readKind_42 : decode cX7_readKind 42 = .ok (.dup, 1) := by decide +kernel
theorem dX7_readKind_43 : decode cX7_readKind 43 = .ok (.getfield 32, 3) := by decide +kernel
theorem dX7_readKind_46 : decode cX7_readKind 46 = .ok (.iconst 1, 1) := by decide +kernel
theorem dX7_readKind_47 : decode cX7_readKind 47 = .ok (.iadd, 1) := by decide +kernel
theorem dX7_readKind_48 : decode cX7_readKind 48 = .ok (.putfield 32, 3) := by decide +kernel
theorem dX7_readKind_51 : decode cX7_readKind 51 = .ok (.iconst 1, 1) := by decide +kernel
theorem dX7_readKind_52 : decode cX7_readKind 52 = .ok (.ireturn, 1) := by decide +kernel
theorem dX8_init_0 : decode cX8_init 0 = .ok (.aload_n 0, 1) := by decide +kernel
theorem dX8_init_1 : decode cX8_init 1 = .ok (.invokespecial 3, 3) := by decide +kernel
theorem dX8_init_4 : decode cX8_init 4 = .ok (.aload_n 0, 1) := by decide +kernel
theorem dX8_init_5 : decode cX8_init 5 = .ok (.new 9, 3) := by decide +kernel
theorem dX8_init_8 : decode cX8_init 8 = .ok (.dup, 1) := by decide +kernel
theorem dX8_init_9 : decode cX8_init 9 = .ok (.invokespecial 11, 3) := by decide +kernel
theorem dX8_init_12 : decode cX8_init 12 = .ok (.putfield 12, 3) := by decide +kernel
theorem dX8_init_15 : decode cX8_init 15 = .ok (.aload_n 0, 1) := by decide +kernel
theorem dX8_init_16 : decode cX8_init 16 = .ok (.new 18, 3) := by decide +kernel
theorem dX8_init_19 : decode cX8_init 19 = .ok (.dup, 1) := by decide +kernel
theorem dX8_init_20 : decode cX8_init 20 = .ok (.invokespecial 20, 3) := by decide +kernel
theorem dX8_init_23 : decode cX8_init 23 = .ok (.putfield 21, 3) := by decide +kernel
theorem dX8_init_26 : decode cX8_init 26 = .ok (.aload_n 0, 1) := by decide +kernel
theorem dX8_init_27 : decode cX8_init 27 = .ok (.new 25, 3) := by decide +kernel
theorem dX8_init_30 : decode cX8_init 30 = .ok (.dup, 1) := by decide +kernel
theorem dX8_init_31 : decode cX8_init 31 = .ok (.invokespecial 27, 3) := by decide +kernel
theorem dX8_init_34 : decode cX8_init 34 = .ok (.putfield 28, 3) := by decide +kernel
theorem dX8_init_37 : decode cX8_init 37 = .ok (.aload_n 0, 1) := by decide +kernel
theorem dX8_init_38 : decode cX8_init 38 = .ok (.bipush 21, 2) := by decide +kernel
theorem dX8_init_40 : decode cX8_init 40 = .ok (.newarray .int, 2) := by decide +kernel
theorem dX8_init_42 : decode cX8_init 42 = .ok (.putfield 32, 3) := by decide +kernel
theorem dX8_init_45 : decode cX8_init 45 = .ok (.aload_n 0, 1) := by decide +kernel
theorem dX8_init_46 : decode cX8_init 46 = .ok (.bipush 18, 2) := by decide +kernel
theorem dX8_init_48 : decode cX8_init 48 = .ok (.newarray .int, 2) := by decide +kernel
theorem dX8_init_50 : decode cX8_init 50 = .ok (.putfield 36, 3) := by decide +kernel
theorem dX8_init_53 : decode cX8_init 53 = .ok (.aload_n 0, 1) := by decide +kernel
theorem dX8_init_54 : decode cX8_init 54 = .ok (.bipush 18, 2) := by decide +kernel
theorem dX8_init_56 : decode cX8_init 56 = .ok (.newarray .int, 2) := by decide +kernel
theorem dX8_init_58 : decode cX8_init 58 = .ok (.putfield 39, 3) := by decide +kernel
theorem dX8_init_61 : decode cX8_init 61 = .ok (.aload_n 0, 1) := by decide +kernel
theorem dX8_init_62 : decode cX8_init 62 = .ok (.sipush 2268, 3) := by decide +kernel
theorem dX8_init_65 : decode cX8_init 65 = .ok (.newarray .int, 2) := by decide +kernel
theorem dX8_init_67 : decode cX8_init 67 = .ok (.putfield 42, 3) := by decide +kernel
theorem dX8_init_70 : decode cX8_init 70 = .ok (.return_, 1) := by decide +kernel
theorem dX8_forget_0 : decode cX8_forget 0 = .ok (.aload_n 0, 1) := by decide +kernel
theorem dX8_forget_1 : decode cX8_forget 1 = .ok (.iconst 0, 1) := by decide +kernel
theorem dX8_forget_2 : decode cX8_forget 2 = .ok (.putfield 45, 3) := by decide +kernel
theorem dX8_forget_5 : decode cX8_forget 5 = .ok (.aload_n 0, 1) := by decide +kernel
theorem dX8_forget_6 : decode cX8_forget 6 = .ok (.iconst 0, 1) := by decide +kernel
theorem dX8_forget_7 : decode cX8_forget 7 = .ok (.putfield 49, 3) := by decide +kernel
theorem dX8_forget_10 : decode cX8_forget 10 = .ok (.aload_n 0, 1) := by decide +kernel
theorem dX8_forget_11 : decode cX8_forget 11 = .ok (.iconst 0, 1) := by decide +kernel
theorem dX8_forget_12 : decode cX8_forget 12 = .ok (.putfield 53, 3) := by decide +kernel
theorem dX8_forget_15 : decode cX8_forget 15 = .ok (.aload_n 0, 1) := by decide +kernel
theorem dX8_forget_16 : decode cX8_forget 16 = .ok (.getfield 28, 3) := by decide +kernel
theorem dX8_forget_19 : decode cX8_forget 19 = .ok (.iconst 0, 1) := by decide +kernel
theorem dX8_forget_20 : decode cX8_forget 20 = .ok (.putfield 56, 3) := by decide +kernel
theorem dX8_forget_23 : decode cX8_forget 23 = .ok (.return_, 1) := by decide +kernel
theorem dX8_leastMotor_0 : decode cX8_leastMotor 0 = .ok (.iconst 0, 1) := by decide +kernel
theorem dX8_leastMotor_1 : decode cX8_leastMotor 1 = .ok (.istore_n 3, 1) := by decide +kernel
theorem dX8_leastMotor_2 : decode cX8_leastMotor 2 = .ok (.iload_n 3, 1) := by decide +kernel
theorem dX8_leastMotor_3 : decode cX8_leastMotor 3 = .ok (.bipush 21, 2) := by decide +kernel
theorem dX8_leastMotor_5 : decode cX8_leastMotor 5 = .ok (.if_icmp .ge 105, 3) := by decide +kernel
theorem dX8_leastMotor_8 : decode cX8_leastMotor 8 = .ok (.iload_n 3, 1) := by decide +kernel
theorem dX8_leastMotor_9 : decode cX8_leastMotor 9 = .ok (.aload_n 0, 1) := by decide +kernel
theorem dX8_leastMotor_10 : decode cX8_leastMotor 10 = .ok (.getfield 45, 3) := by decide +kernel
theorem dX8_leastMotor_13 : decode cX8_leastMotor 13 = .ok (.if_icmp .lt 79, 3) := by decide +kernel
theorem dX8_leastMotor_16 : decode cX8_leastMotor 16 = .ok (.aload_n 0, 1) := by decide +kernel
theorem dX8_leastMotor_17 : decode cX8_leastMotor 17 = .ok (.getfield 12, 3) := by decide +kernel
theorem dX8_leastMotor_20 : decode cX8_leastMotor 20 = .ok (.aload_n 1, 1) := by decide +kernel
theorem dX8_leastMotor_21 : decode cX8_leastMotor 21 = .ok (.invokevirtual 59, 3) := by decide +kernel
theorem dX8_leastMotor_24 : decode cX8_leastMotor 24 = .ok (.aload_n 0, 1) := by decide +kernel
theorem dX8_leastMotor_25 : decode cX8_leastMotor 25 = .ok (.getfield 12, 3) := by decide +kernel
theorem dX8_leastMotor_28 : decode cX8_leastMotor 28 = .ok (.getfield 63, 3) := by decide +kernel
theorem dX8_leastMotor_31 : decode cX8_leastMotor 31 = .ok (.iconst 3, 1) := by decide +kernel
theorem dX8_leastMotor_32 : decode cX8_leastMotor 32 = .ok (.iload_n 3, 1) := by decide +kernel
theorem dX8_leastMotor_33 : decode cX8_leastMotor 33 = .ok (.iastore, 1) := by decide +kernel
theorem dX8_leastMotor_34 : decode cX8_leastMotor 34 = .ok (.aload_n 0, 1) := by decide +kernel
theorem dX8_leastMotor_35 : decode cX8_leastMotor 35 = .ok (.getfield 21, 3) := by decide +kernel
theorem dX8_leastMotor_38 : decode cX8_leastMotor 38 = .ok (.aload_n 0, 1) := by decide +kernel
theorem dX8_leastMotor_39 : decode cX8_leastMotor 39 = .ok (.getfield 12, 3) := by decide +kernel
theorem dX8_leastMotor_42 : decode cX8_leastMotor 42 = .ok (.aload_n 0, 1) := by decide +kernel
theorem dX8_leastMotor_43 : decode cX8_leastMotor 43 = .ok (.getfield 12, 3) := by decide +kernel
theorem dX8_leastMotor_46 : decode cX8_leastMotor 46 = .ok (.invokevirtual 66, 3) := by decide +kernel
theorem dX8_leastMotor_49 : decode cX8_leastMotor 49 = .ok (.invokevirtual 70, 3) := by decide +kernel
theorem dX8_leastMotor_52 : decode cX8_leastMotor 52 = .ok (.aload_n 0, 1) := by decide +kernel
theorem dX8_leastMotor_53 : decode cX8_leastMotor 53 = .ok (.getfield 21, 3) := by decide +kernel
theorem dX8_leastMotor_56 : decode cX8_leastMotor 56 = .ok (.bipush 119, 2) := by decide +kernel
theorem dX8_leastMotor_58 : decode cX8_leastMotor 58 = .ok (.iconst 1, 1) := by decide +kernel
theorem dX8_leastMotor_59 : decode cX8_leastMotor 59 = .ok (.invokevirtual 74, 3) := by decide +kernel
theorem dX8_leastMotor_62 : decode cX8_leastMotor 62 = .ok (.aload_n 0, 1) := by decide +kernel
theorem dX8_leastMotor_63 : decode cX8_leastMotor 63 = .ok (.getfield 32, 3) := by decide +kernel
theorem dX8_leastMotor_66 : decode cX8_leastMotor 66 = .ok (.iload_n 3, 1) := by decide +kernel
theorem dX8_leastMotor_67 : decode cX8_leastMotor 67 = .ok (.aload_n 0, 1) := by decide +kernel
theorem dX8_leastMotor_68 : decode cX8_leastMotor 68 = .ok (.getfield 21, 3) := by decide +kernel
theorem dX8_leastMotor_71 : decode cX8_leastMotor 71 = .ok (.getfield 78, 3) := by decide +kernel
theorem dX8_leastMotor_74 : decode cX8_leastMotor 74 = .ok (.aload_n 0, 1) := by decide +kernel
theorem dX8_leastMotor_75 : decode cX8_leastMotor 75 = .ok (.getfield 12, 3) := by decide +kernel
theorem dX8_leastMotor_78 : decode cX8_leastMotor 78 = .ok (.getfield 82, 3) := by decide +kernel
theorem dX8_leastMotor_81 : decode cX8_leastMotor 81 = .ok (.invokevirtual 85, 3) := by decide +kernel
theorem dX8_leastMotor_84 : decode cX8_leastMotor 84 = .ok (.iastore, 1) := by decide +kernel
theorem dX8_leastMotor_85 : decode cX8_leastMotor 85 = .ok (.aload_n 0, 1) := by decide +kernel
theorem dX8_leastMotor_86 : decode cX8_leastMotor 86 = .ok (.iload_n 3, 1) := by decide +kernel
theorem dX8_leastMotor_87 : decode cX8_leastMotor 87 = .ok (.iconst 1, 1) := by decide +kernel
theorem dX8_leastMotor_88 : decode cX8_leastMotor 88 = .ok (.iadd, 1) := by decide +kernel
theorem dX8_leastMotor_89 : decode cX8_leastMotor 89 = .ok (.putfield 45, 3) := by decide +kernel
theorem dX8_leastMotor_92 : decode cX8_leastMotor 92 = .ok (.aload_n 0, 1) := by decide +kernel
theorem dX8_leastMotor_93 : decode cX8_leastMotor 93 = .ok (.getfield 32, 3) := by decide +kernel
theorem dX8_leastMotor_96 : decode cX8_leastMotor 96 = .ok (.iload_n 3, 1) := by decide +kernel
theorem dX8_leastMotor_97 : decode cX8_leastMotor 97 = .ok (.iaload, 1) := by decide +kernel
theorem dX8_leastMotor_98 : decode cX8_leastMotor 98 = .ok (.iload_n 2, 1) := by decide +kernel
theorem dX8_leastMotor_99 : decode cX8_leastMotor 99 = .ok (.if_icmp .gt 5, 3) := by decide +kernel
theorem dX8_leastMotor_102 : decode cX8_leastMotor 102 = .ok (.iload_n 3, 1) := by decide +kernel
theorem dX8_leastMotor_103 : decode cX8_leastMotor 103 = .ok (.ireturn, 1) := by decide +kernel
theorem dX8_leastMotor_104 : decode cX8_leastMotor 104 = .ok (.iinc 3 1, 3) := by decide +kernel
theorem dX8_leastMotor_107 : decode cX8_leastMotor 107 = .ok (.goto (-105), 3) := by decide +kernel
theorem dX8_leastMotor_110 : decode cX8_leastMotor 110 = .ok (.bipush (-4), 2) := by decide +kernel
theorem dX8_leastMotor_112 : decode cX8_leastMotor 112 = .ok (.ireturn, 1) := by decide +kernel
theorem dX8_leavesOf_0 : decode cX8_leavesOf 0 = .ok (.iconst 3, 1) := by decide +kernel
theorem dX8_leavesOf_1 : decode cX8_leavesOf 1 = .ok (.iload_n 0, 1) := by decide +kernel
theorem dX8_leavesOf_2 : decode cX8_leavesOf 2 = .ok (.bipush 9, 2) := by decide +kernel
theorem dX8_leavesOf_4 : decode cX8_leavesOf 4 = .ok (.idiv, 1) := by decide +kernel
theorem dX8_leavesOf_5 : decode cX8_leavesOf 5 = .ok (.iadd, 1) := by decide +kernel
theorem dX8_leavesOf_6 : decode cX8_leavesOf 6 = .ok (.ireturn, 1) := by decide +kernel
theorem dX8_openingOf_0 : decode cX8_openingOf 0 = .ok (.iconst 1, 1) := by decide +kernel
theorem dX8_openingOf_1 : decode cX8_openingOf 1 = .ok (.iload_n 0, 1) := by decide +kernel
theorem dX8_openingOf_2 : decode cX8_openingOf 2 = .ok (.iconst 3, 1) := by decide +kernel
theorem dX8_openingOf_3 : decode cX8_openingOf 3 = .ok (.idiv, 1) := by decide +kernel
theorem dX8_openingOf_4 : decode cX8_openingOf 4 = .ok (.iconst 3, 1) := by decide +kernel
theorem dX8_openingOf_5 : decode cX8_openingOf 5 = .ok (.irem, 1) := by decide +kernel
theorem dX8_openingOf_6 : decode cX8_openingOf 6 = .ok (.iadd, 1) := by decide +kernel
theorem dX8_openingOf_7 : decode cX8_openingOf 7 = .ok (.ireturn, 1) := by decide +kernel
theorem dX8_governorOf_0 : decode cX8_governorOf 0 = .ok (.iconst 1, 1) := by decide +kernel
theorem dX8_governorOf_1 : decode cX8_governorOf 1 = .ok (.iload_n 0, 1) := by decide +kernel
theorem dX8_governorOf_2 : decode cX8_governorOf 2 = .ok (.iconst 3, 1) := by decide +kernel
theorem dX8_governorOf_3 : decode cX8_governorOf 3 = .ok (.irem, 1) := by decide +kernel
theorem dX8_governorOf_4 : decode cX8_governorOf 4 = .ok (.iadd, 1) := by decide +kernel
theorem dX8_governorOf_5 : decode cX8_governorOf 5 = .ok (.ireturn, 1) := by decide +kernel
theorem dX8_lossOf_0 : decode cX8_lossOf 0 = .ok (.iload_n 1, 1) := by decide +kernel
theorem dX8_lossOf_1 : decode cX8_lossOf 1 = .ok (.bipush 18, 2) := by decide +kernel
theorem dX8_lossOf_3 : decode cX8_lossOf 3 = .ok (.invokestatic 91, 3) := by decide +kernel
theorem dX8_lossOf_6 : decode cX8_lossOf 6 = .ok (.ifCond .eq 12, 3) := by decide +kernel
theorem dX8_lossOf_9 : decode cX8_lossOf 9 = .ok (.aload_n 0, 1) := by decide +kernel
theorem dX8_lossOf_10 : decode cX8_lossOf 10 = .ok (.getfield 39, 3) := by decide +kernel
theorem dX8_lossOf_13 : decode cX8_lossOf 13 = .ok (.iload_n 1, 1) := by decide +kernel
theorem dX8_lossOf_14 : decode cX8_lossOf 14 = .ok (.iaload, 1) := by decide +kernel
theorem dX8_lossOf_15 : decode cX8_lossOf 15 = .ok (.goto 4, 3) := by decide +kernel
theorem dX8_lossOf_18 : decode cX8_lossOf 18 = .ok (.iconst 0, 1) := by decide +kernel
theorem dX8_lossOf_19 : decode cX8_lossOf 19 = .ok (.ireturn, 1) := by decide +kernel
theorem dX8_warmestDoor_0 : decode cX8_warmestDoor 0 = .ok (.iconst (-1), 1) := by decide +kernel
theorem dX8_warmestDoor_1 : decode cX8_warmestDoor 1 = .ok (.istore_n 2, 1) := by decide +kernel
theorem dX8_warmestDoor_2 : decode cX8_warmestDoor 2 = .ok (.iconst 0, 1) := by decide +kernel
theorem dX8_warmestDoor_3 : decode cX8_warmestDoor 3 = .ok (.istore_n 3, 1) := by decide +kernel
theorem dX8_warmestDoor_4 : decode cX8_warmestDoor 4 = .ok (.iload_n 3, 1) := by decide +kernel
theorem dX8_warmestDoor_5 : decode cX8_warmestDoor 5 = .ok (.bipush 18, 2) := by decide +kernel
theorem dX8_warmestDoor_7 : decode cX8_warmestDoor 7 = .ok (.if_icmp .ge 40, 3) := by decide +kernel
theorem dX8_warmestDoor_10 : decode cX8_warmestDoor 10 = .ok (.aload_n 0, 1) := by decide +kernel
theorem dX8_warmestDoor_11 : decode cX8_warmestDoor 11 = .ok (.getfield 36, 3) := by decide +kernel
theorem dX8_warmestDoor_14 : decode cX8_warmestDoor 14 = .ok (.iload_n 3, 1) := by decide +kernel
theorem dX8_warmestDoor_15 : decode cX8_warmestDoor 15 = .ok (.iaload, 1) := by decide +kernel
theorem dX8_warmestDoor_16 : decode cX8_warmestDoor 16 = .ok (.iload_n 1, 1) := by decide +kernel
theorem dX8_warmestDoor_17 : decode cX8_warmestDoor 17 = .ok (.if_icmp .gt 24, 3) := by decide +kernel
theorem dX8_warmestDoor_20 : decode cX8_warmestDoor 20 = .ok (.iload_n 2, 1) := by decide +kernel
theorem dX8_warmestDoor_21 : decode cX8_warmestDoor 21 = .ok (.ifCond .lt 18, 3) := by decide +kernel
theorem dX8_warmestDoor_24 : decode cX8_warmestDoor 24 = .ok (.aload_n 0, 1) := by decide +kernel
theorem dX8_warmestDoor_25 : decode cX8_warmestDoor 25 = .ok (.getfield 39, 3) := by decide +kernel
theorem dX8_warmestDoor_28 : decode cX8_warmestDoor 28 = .ok (.iload_n 3, 1) := by decide +kernel
theorem dX8_warmestDoor_29 : decode cX8_warmestDoor 29 = .ok (.iaload, 1) := by decide +kernel
theorem dX8_warmestDoor_30 : decode cX8_warmestDoor 30 = .ok (.aload_n 0, 1) := by decide +kernel
theorem dX8_warmestDoor_31 : decode cX8_warmestDoor 31 = .ok (.getfield 39, 3) := by decide +kernel
theorem dX8_warmestDoor_34 : decode cX8_warmestDoor 34 = .ok (.iload_n 2, 1) := by decide +kernel
theorem dX8_warmestDoor_35 : decode cX8_warmestDoor 35 = .ok (.iaload, 1) := by decide +kernel
theorem dX8_warmestDoor_36 : decode cX8_warmestDoor 36 = .ok (.if_icmp .ge 5, 3) := by decide +kernel
theorem dX8_warmestDoor_39 : decode cX8_warmestDoor 39 = .ok (.iload_n 3, 1) := by decide +kernel
theorem dX8_warmestDoor_40 : decode cX8_warmestDoor 40 = .ok (.istore_n 2, 1) := by decide +kernel
theorem dX8_warmestDoor_41 : decode cX8_warmestDoor 41 = .ok (.iinc 3 1, 3) := by decide +kernel
theorem dX8_warmestDoor_44 : decode cX8_warmestDoor 44 = .ok (.goto (-40), 3) := by decide +kernel
theorem dX8_warmestDoor_47 : decode cX8_warmestDoor 47 = .ok (.iload_n 2, 1) := by decide +kernel
theorem dX8_warmestDoor_48 : decode cX8_warmestDoor 48 = .ok (.ireturn, 1) := by decide +kernel
theorem dX8_findDoors_0 : decode cX8_findDoors 0 = .ok (.aload_n 0, 1) := by decide +kernel
theorem dX8_findDoors_1 : decode cX8_findDoors 1 = .ok (.getfield 49, 3) := by decide +kernel
theorem dX8_findDoors_4 : decode cX8_findDoors 4 = .ok (.ifCond .eq 4, 3) := by decide +kernel
theorem dX8_findDoors_7 : decode cX8_findDoors 7 = .ok (.return_, 1) := by decide +kernel
theorem dX8_findDoors_8 : decode cX8_findDoors 8 = .ok (.aload_n 0, 1) := by decide +kernel
theorem dX8_findDoors_9 : decode cX8_findDoors 9 = .ok (.getfield 12, 3) := by decide +kernel
theorem dX8_findDoors_12 : decode cX8_findDoors 12 = .ok (.aload_n 1, 1) := by decide +kernel
theorem dX8_findDoors_13 : decode cX8_findDoors 13 = .ok (.invokevirtual 59, 3) := by decide +kernel
theorem dX8_findDoors_16 : decode cX8_findDoors 16 = .ok (.iconst 0, 1) := by decide +kernel
theorem dX8_findDoors_17 : decode cX8_findDoors 17 = .ok (.istore_n 2, 1) := by decide +kernel
theorem dX8_findDoors_18 : decode cX8_findDoors 18 = .ok (.iload_n 2, 1) := by decide +kernel
theorem dX8_findDoors_19 : decode cX8_findDoors 19 = .ok (.bipush 18, 2) := by decide +kernel
theorem dX8_findDoors_21 : decode cX8_findDoors 21 = .ok (.if_icmp .ge 115, 3) := by decide +kernel
theorem dX8_findDoors_24 : decode cX8_findDoors 24 = .ok (.aload_n 0, 1) := by decide +kernel
theorem dX8_findDoors_25 : decode cX8_findDoors 25 = .ok (.getfield 12, 3) := by decide +kernel
theorem dX8_findDoors_28 : decode cX8_findDoors 28 = .ok (.getfield 63, 3) := by decide +kernel
theorem dX8_findDoors_31 : decode cX8_findDoors 31 = .ok (.iconst 0, 1) := by decide +kernel
theorem dX8_findDoors_32 : decode cX8_findDoors 32 = .ok (.iload_n 2, 1) := by decide +kernel
theorem dX8_findDoors_33 : decode cX8_findDoors 33 = .ok (.invokestatic 95, 3) := by decide +kernel
theorem dX8_findDoors_36 : decode cX8_findDoors 36 = .ok (.iastore, 1) := by decide +kernel
theorem dX8_findDoors_37 : decode cX8_findDoors 37 = .ok (.aload_n 0, 1) := by decide +kernel
theorem dX8_findDoors_38 : decode cX8_findDoors 38 = .ok (.getfield 12, 3) := by decide +kernel
theorem dX8_findDoors_41 : decode cX8_findDoors 41 = .ok (.getfield 63, 3) := by decide +kernel
theorem dX8_findDoors_44 : decode cX8_findDoors 44 = .ok (.iconst 1, 1) := by decide +kernel
theorem dX8_findDoors_45 : decode cX8_findDoors 45 = .ok (.iload_n 2, 1) := by decide +kernel
theorem dX8_findDoors_46 : decode cX8_findDoors 46 = .ok (.invokestatic 98, 3) := by decide +kernel
theorem dX8_findDoors_49 : decode cX8_findDoors 49 = .ok (.iastore, 1) := by decide +kernel
theorem dX8_findDoors_50 : decode cX8_findDoors 50 = .ok (.aload_n 0, 1) := by decide +kernel
theorem dX8_findDoors_51 : decode cX8_findDoors 51 = .ok (.getfield 12, 3) := by decide +kernel
theorem dX8_findDoors_54 : decode cX8_findDoors 54 = .ok (.getfield 63, 3) := by decide +kernel
theorem dX8_findDoors_57 : decode cX8_findDoors 57 = .ok (.iconst 5, 1) := by decide +kernel
theorem dX8_findDoors_58 : decode cX8_findDoors 58 = .ok (.iload_n 2, 1) := by decide +kernel
theorem dX8_findDoors_59 : decode cX8_findDoors 59 = .ok (.invokestatic 101, 3) := by decide +kernel
theorem dX8_findDoors_62 : decode cX8_findDoors 62 = .ok (.iastore, 1) := by decide +kernel
theorem dX8_findDoors_63 : decode cX8_findDoors 63 = .ok (.aload_n 0, 1) := by decide +kernel
theorem dX8_findDoors_64 : decode cX8_findDoors 64 = .ok (.getfield 21, 3) := by decide +kernel
theorem dX8_findDoors_67 : decode cX8_findDoors 67 = .ok (.aload_n 0, 1) := by decide +kernel
theorem dX8_findDoors_68 : decode cX8_findDoors 68 = .ok (.getfield 12, 3) := by decide +kernel
theorem dX8_findDoors_71 : decode cX8_findDoors 71 = .ok (.aload_n 0, 1) := by decide +kernel
theorem dX8_findDoors_72 : decode cX8_findDoors 72 = .ok (.getfield 12, 3) := by decide +kernel
theorem dX8_findDoors_75 : decode cX8_findDoors 75 = .ok (.invokevirtual 66, 3) := by decide +kernel
theorem dX8_findDoors_78 : decode cX8_findDoors 78 = .ok (.invokevirtual 70, 3) := by decide +kernel
theorem dX8_findDoors_81 : decode cX8_findDoors 81 = .ok (.aload_n 0, 1) := by decide +kernel
theorem dX8_findDoors_82 : decode cX8_findDoors 82 = .ok (.getfield 21, 3) := by decide +kernel
theorem dX8_findDoors_85 : decode cX8_findDoors 85 = .ok (.bipush 119, 2) := by decide +kernel
theorem dX8_findDoors_87 : decode cX8_findDoors 87 = .ok (.iconst 0, 1) := by decide +kernel
theorem dX8_findDoors_88 : decode cX8_findDoors 88 = .ok (.invokevirtual 74, 3) := by decide +kernel
theorem dX8_findDoors_91 : decode cX8_findDoors 91 = .ok (.aload_n 0, 1) := by decide +kernel
theorem dX8_findDoors_92 : decode cX8_findDoors 92 = .ok (.getfield 36, 3) := by decide +kernel
theorem dX8_findDoors_95 : decode cX8_findDoors 95 = .ok (.iload_n 2, 1) := by decide +kernel
theorem dX8_findDoors_96 : decode cX8_findDoors 96 = .ok (.aload_n 0, 1) := by decide +kernel
theorem dX8_findDoors_97 : decode cX8_findDoors 97 = .ok (.getfield 21, 3) := by decide +kernel
theorem dX8_findDoors_100 : decode cX8_findDoors 100 = .ok (.getfield 78, 3) := by decide +kernel
theorem dX8_findDoors_103 : decode cX8_findDoors 103 = .ok (.aload_n 0, 1) := by decide +kernel
theorem dX8_findDoors_104 : decode cX8_findDoors 104 = .ok (.getfield 12, 3) := by decide +kernel
theorem dX8_findDoors_107 : decode cX8_findDoors 107 = .ok (.getfield 82, 3) := by decide +kernel
theorem dX8_findDoors_110 : decode cX8_findDoors 110 = .ok (.invokevirtual 85, 3) := by decide +kernel
theorem dX8_findDoors_113 : decode cX8_findDoors 113 = .ok (.iastore, 1) := by decide +kernel
theorem dX8_findDoors_114 : decode cX8_findDoors 114 = .ok (.aload_n 0, 1) := by decide +kernel
theorem dX8_findDoors_115 : decode cX8_findDoors 115 = .ok (.getfield 39, 3) := by decide +kernel
theorem dX8_findDoors_118 : decode cX8_findDoors 118 = .ok (.iload_n 2, 1) := by decide +kernel
theorem dX8_findDoors_119 : decode cX8_findDoors 119 = .ok (.aload_n 0, 1) := by decide +kernel
theorem dX8_findDoors_120 : decode cX8_findDoors 120 = .ok (.getfield 21, 3) := by decide +kernel
theorem dX8_findDoors_123 : decode cX8_findDoors 123 = .ok (.getfield 104, 3) := by decide +kernel
theorem dX8_findDoors_126 : decode cX8_findDoors 126 = .ok (.getfield 108, 3) := by decide +kernel
theorem dX8_findDoors_129 : decode cX8_findDoors 129 = .ok (.iastore, 1) := by decide +kernel
theorem dX8_findDoors_130 : decode cX8_findDoors 130 = .ok (.iinc 2 1, 3) := by decide +kernel
theorem dX8_findDoors_133 : decode cX8_findDoors 133 = .ok (.goto (-115), 3) := by decide +kernel
theorem dX8_findDoors_136 : decode cX8_findDoors 136 = .ok (.aload_n 0, 1) := by decide +kernel
theorem dX8_findDoors_137 : decode cX8_findDoors 137 = .ok (.iconst 1, 1) := by decide +kernel
theorem dX8_findDoors_138 : decode cX8_findDoors 138 = .ok (.putfield 49, 3) := by decide +kernel
theorem dX8_findDoors_141 : decode cX8_findDoors 141 = .ok (.return_, 1) := by decide +kernel
theorem dX8_lossWithout_0 : decode cX8_lossWithout 0 = .ok (.aload_n 0, 1) := by decide +kernel
theorem dX8_lossWithout_1 : decode cX8_lossWithout 1 = .ok (.getfield 21, 3) := by decide +kernel
theorem dX8_lossWithout_4 : decode cX8_lossWithout 4 = .ok (.aload_n 1, 1) := by decide +kernel
theorem dX8_lossWithout_5 : decode cX8_lossWithout 5 = .ok (.aload_n 1, 1) := by decide +kernel
theorem dX8_lossWithout_6 : decode cX8_lossWithout 6 = .ok (.invokevirtual 66, 3) := by decide +kernel
theorem dX8_lossWithout_9 : decode cX8_lossWithout 9 = .ok (.iconst 1, 1) := by decide +kernel
theorem dX8_lossWithout_10 : decode cX8_lossWithout 10 = .ok (.iload_n 2, 1) := by decide +kernel
theorem dX8_lossWithout_11 : decode cX8_lossWithout 11 = .ok (.ishl, 1) := by decide +kernel
theorem dX8_lossWithout_12 : decode cX8_lossWithout 12 = .ok (.iconst (-1), 1) := by decide +kernel
theorem dX8_lossWithout_13 : decode cX8_lossWithout 13 = .ok (.ixor, 1) := by decide +kernel
theorem dX8_lossWithout_14 : decode cX8_lossWithout 14 = .ok (.iand, 1) := by decide +kernel
theorem dX8_lossWithout_15 : decode cX8_lossWithout 15 = .ok (.invokevirtual 70, 3) := by decide +kernel
theorem dX8_lossWithout_18 : decode cX8_lossWithout 18 = .ok (.aload_n 0, 1) := by decide +kernel
theorem dX8_lossWithout_19 : decode cX8_lossWithout 19 = .ok (.getfield 21, 3) := by decide +kernel
theorem dX8_lossWithout_22 : decode cX8_lossWithout 22 = .ok (.bipush 119, 2) := by decide +kernel
theorem dX8_lossWithout_24 : decode cX8_lossWithout 24 = .ok (.iconst 0, 1) := by decide +kernel
theorem dX8_lossWithout_25 : decode cX8_lossWithout 25 = .ok (.invokevirtual 74, 3) := by decide +kernel
theorem dX8_lossWithout_28 : decode cX8_lossWithout 28 = .ok (.aload_n 0, 1) := by decide +kernel
theorem dX8_lossWithout_29 : decode cX8_lossWithout 29 = .ok (.getfield 21, 3) := by decide +kernel
theorem dX8_lossWithout_32 : decode cX8_lossWithout 32 = .ok (.getfield 104, 3) := by decide +kernel
theorem dX8_lossWithout_35 : decode cX8_lossWithout 35 = .ok (.getfield 108, 3) := by decide +kernel
theorem dX8_lossWithout_38 : decode cX8_lossWithout 38 = .ok (.ireturn, 1) := by decide +kernel
theorem dX8_findEnds_0 : decode cX8_findEnds 0 = .ok (.aload_n 0, 1) := by decide +kernel
theorem dX8_findEnds_1 : decode cX8_findEnds 1 = .ok (.getfield 53, 3) := by decide +kernel
theorem dX8_findEnds_4 : decode cX8_findEnds 4 = .ok (.ifCond .eq 4, 3) := by decide +kernel
theorem dX8_findEnds_7 : decode cX8_findEnds 7 = .ok (.return_, 1) := by decide +kernel
theorem dX8_findEnds_8 : decode cX8_findEnds 8 = .ok (.aload_n 0, 1) := by decide +kernel
theorem dX8_findEnds_9 : decode cX8_findEnds 9 = .ok (.getfield 12, 3) := by decide +kernel
theorem dX8_findEnds_12 : decode cX8_findEnds 12 = .ok (.aload_n 1, 1) := by decide +kernel
theorem dX8_findEnds_13 : decode cX8_findEnds 13 = .ok (.invokevirtual 59, 3) := by decide +kernel
theorem dX8_findEnds_16 : decode cX8_findEnds 16 = .ok (.iconst 0, 1) := by decide +kernel
theorem dX8_findEnds_17 : decode cX8_findEnds 17 = .ok (.istore_n 2, 1) := by decide +kernel
theorem dX8_findEnds_18 : decode cX8_findEnds 18 = .ok (.iload_n 2, 1) := by decide +kernel
theorem dX8_findEnds_19 : decode cX8_findEnds 19 = .ok (.sipush 189, 3) := by decide +kernel
theorem dX8_findEnds_22 : decode cX8_findEnds 22 = .ok (.if_icmp .ge 107, 3) := by decide +kernel
theorem dX8_findEnds_25 : decode cX8_findEnds 25 = .ok (.aload_n 0, 1) := by decide +kernel
theorem dX8_findEnds_26 : decode cX8_findEnds 26 = .ok (.getfield 12, 3) := by decide +kernel
theorem dX8_findEnds_29 : decode cX8_findEnds 29 = .ok (.getfield 63, 3) := by decide +kernel
theorem dX8_findEnds_32 : decode cX8_findEnds 32 = .ok (.iconst 3, 1) := by decide +kernel
theorem dX8_findEnds_33 : decode cX8_findEnds 33 = .ok (.iload_n 2, 1) := by decide +kernel
theorem dX8_findEnds_34 : decode cX8_findEnds 34 = .ok (.bipush 9, 2) := by decide +kernel
theorem dX8_findEnds_36 : decode cX8_findEnds 36 = .ok (.idiv, 1) := by decide +kernel
theorem dX8_findEnds_37 : decode cX8_findEnds 37 = .ok (.iastore, 1) := by decide +kernel
theorem dX8_findEnds_38 : decode cX8_findEnds 38 = .ok (.aload_n 0, 1) := by decide +kernel
theorem dX8_findEnds_39 : decode cX8_findEnds 39 = .ok (.getfield 12, 3) := by decide +kernel
theorem dX8_findEnds_42 : decode cX8_findEnds 42 = .ok (.getfield 63, 3) := by decide +kernel
theorem dX8_findEnds_45 : decode cX8_findEnds 45 = .ok (.iconst 4, 1) := by decide +kernel
theorem dX8_findEnds_46 : decode cX8_findEnds 46 = .ok (.iconst 1, 1) := by decide +kernel
theorem dX8_findEnds_47 : decode cX8_findEnds 47 = .ok (.iload_n 2, 1) := by decide +kernel
theorem dX8_findEnds_48 : decode cX8_findEnds 48 = .ok (.bipush 9, 2) := by decide +kernel
theorem dX8_findEnds_50 : decode cX8_findEnds 50 = .ok (.irem, 1) := by decide +kernel
theorem dX8_findEnds_51 : decode cX8_findEnds 51 = .ok (.iadd, 1) := by decide +kernel
theorem dX8_findEnds_52 : decode cX8_findEnds 52 = .ok (.iastore, 1) := by decide +kernel
theorem dX8_findEnds_53 : decode cX8_findEnds 53 = .ok (.aload_n 0, 1) := by decide +kernel
theorem dX8_findEnds_54 : decode cX8_findEnds 54 = .ok (.getfield 21, 3) := by decide +kernel
theorem dX8_findEnds_57 : decode cX8_findEnds 57 = .ok (.aload_n 0, 1) := by decide +kernel
theorem dX8_findEnds_58 : decode cX8_findEnds 58 = .ok (.getfield 12, 3) := by decide +kernel
theorem dX8_findEnds_61 : decode cX8_findEnds 61 = .ok (.aload_n 0, 1) := by decide +kernel
theorem dX8_findEnds_62 : decode cX8_findEnds 62 = .ok (.getfield 12, 3) := by decide +kernel
theorem dX8_findEnds_65 : decode cX8_findEnds 65 = .ok (.invokevirtual 66, 3) := by decide +kernel
theorem dX8_findEnds_68 : decode cX8_findEnds 68 = .ok (.invokevirtual 70, 3) := by decide +kernel
theorem dX8_findEnds_71 : decode cX8_findEnds 71 = .ok (.aload_n 0, 1) := by decide +kernel
theorem dX8_findEnds_72 : decode cX8_findEnds 72 = .ok (.getfield 21, 3) := by decide +kernel
theorem dX8_findEnds_75 : decode cX8_findEnds 75 = .ok (.bipush 119, 2) := by decide +kernel
theorem dX8_findEnds_77 : decode cX8_findEnds 77 = .ok (.iconst 1, 1) := by decide +kernel
theorem dX8_findEnds_78 : decode cX8_findEnds 78 = .ok (.invokevirtual 74, 3) := by decide +kernel
theorem dX8_findEnds_81 : decode cX8_findEnds 81 = .ok (.iconst 0, 1) := by decide +kernel
theorem dX8_findEnds_82 : decode cX8_findEnds 82 = .ok (.istore_n 3, 1) := by decide +kernel
theorem dX8_findEnds_83 : decode cX8_findEnds 83 = .ok (.iload_n 3, 1) := by decide +kernel
theorem dX8_findEnds_84 : decode cX8_findEnds 84 = .ok (.aload_n 0, 1) := by decide +kernel
theorem dX8_findEnds_85 : decode cX8_findEnds 85 = .ok (.getfield 12, 3) := by decide +kernel
theorem dX8_findEnds_88 : decode cX8_findEnds 88 = .ok (.getfield 82, 3) := by decide +kernel
theorem dX8_findEnds_91 : decode cX8_findEnds 91 = .ok (.if_icmp .ge 32, 3) := by decide +kernel
theorem dX8_findEnds_94 : decode cX8_findEnds 94 = .ok (.aload_n 0, 1) := by decide +kernel
theorem dX8_findEnds_95 : decode cX8_findEnds 95 = .ok (.getfield 42, 3) := by decide +kernel
theorem dX8_findEnds_98 : decode cX8_findEnds 98 = .ok (.iload_n 2, 1) := by decide +kernel
theorem dX8_findEnds_99 : decode cX8_findEnds 99 = .ok (.bipush 12, 2) := by decide +kernel
theorem dX8_findEnds_101 : decode cX8_findEnds 101 = .ok (.imul, 1) := by decide +kernel
theorem dX8_findEnds_102 : decode cX8_findEnds 102 = .ok (.iload_n 3, 1) := by decide +kernel
theorem dX8_findEnds_103 : decode cX8_findEnds 103 = .ok (.iadd, 1) := by decide +kernel
theorem dX8_findEnds_104 : decode cX8_findEnds 104 = .ok (.aload_n 0, 1) := by decide +kernel
theorem dX8_findEnds_105 : decode cX8_findEnds 105 = .ok (.getfield 21, 3) := by decide +kernel
theorem dX8_findEnds_108 : decode cX8_findEnds 108 = .ok (.getfield 78, 3) := by decide +kernel
theorem dX8_findEnds_111 : decode cX8_findEnds 111 = .ok (.getfield 113, 3) := by decide +kernel
theorem dX8_findEnds_114 : decode cX8_findEnds 114 = .ok (.iload_n 3, 1) := by decide +kernel
theorem dX8_findEnds_115 : decode cX8_findEnds 115 = .ok (.iaload, 1) := by decide +kernel
theorem dX8_findEnds_116 : decode cX8_findEnds 116 = .ok (.iastore, 1) := by decide +kernel
theorem dX8_findEnds_117 : decode cX8_findEnds 117 = .ok (.iinc 3 1, 3) := by decide +kernel
theorem dX8_findEnds_120 : decode cX8_findEnds 120 = .ok (.goto (-37), 3) := by decide +kernel
theorem dX8_findEnds_123 : decode cX8_findEnds 123 = .ok (.iinc 2 1, 3) := by decide +kernel
theorem dX8_findEnds_126 : decode cX8_findEnds 126 = .ok (.goto (-108), 3) := by decide +kernel
theorem dX8_findEnds_129 : decode cX8_findEnds 129 = .ok (.aload_n 0, 1) := by decide +kernel
theorem dX8_findEnds_130 : decode cX8_findEnds 130 = .ok (.iconst 1, 1) := by decide +kernel
theorem dX8_findEnds_131 : decode cX8_findEnds 131 = .ok (.putfield 53, 3) := by decide +kernel
theorem dX8_findEnds_134 : decode cX8_findEnds 134 = .ok (.return_, 1) := by decide +kernel
theorem dX8_countAgreeing_0 : decode cX8_countAgreeing 0 = .ok (.iconst 0, 1) := by decide +kernel
theorem dX8_countAgreeing_1 : decode cX8_countAgreeing 1 = .ok (.istore 4, 2) := by decide +kernel
theorem dX8_countAgreeing_3 : decode cX8_countAgreeing 3 = .ok (.iconst 0, 1) := by decide +kernel
theorem dX8_countAgreeing_4 : decode cX8_countAgreeing 4 = .ok (.istore 5, 2) := by decide +kernel
theorem dX8_countAgreeing_6 : decode cX8_countAgreeing 6 = .ok (.iload 5, 2) := by decide +kernel
theorem dX8_countAgreeing_8 : decode cX8_countAgreeing 8 = .ok (.sipush 189, 3) := by decide +kernel
theorem dX8_countAgreeing_11 : decode cX8_countAgreeing 11 = .ok (.if_icmp .ge 35, 3) := by decide +kernel
theorem dX8_countAgreeing_14 : decode cX8_countAgreeing 14 = .ok (.aload_n 0, 1) := by decide +kernel
theorem dX8_countAgreeing_15 : decode cX8_countAgreeing 15 = .ok (.iload 5, 2) := by decide +kernel
theorem dX8_countAgreeing_17 : decode cX8_countAgreeing 17 = .ok (.aload_n 1, 1) := by decide +kernel
theorem dX8_countAgreeing_18 : decode cX8_countAgreeing 18 = .ok (.iload_n 2, 1) := by decide +kernel
theorem dX8_countAgreeing_19 : decode cX8_countAgreeing 19 = .ok (.iload_n 3, 1) := by decide +kernel
theorem dX8_countAgreeing_20 : decode cX8_countAgreeing 20 = .ok (.invokevirtual 114, 3) := by decide +kernel
theorem dX8_countAgreeing_23 : decode cX8_countAgreeing 23 = .ok (.ifCond .eq 17, 3) := by decide +kernel
theorem dX8_countAgreeing_26 : decode cX8_countAgreeing 26 = .ok (.iload 4, 2) := by decide +kernel
theorem dX8_countAgreeing_28 : decode cX8_countAgreeing 28 = .ok (.ifCond .ne 9, 3) := by decide +kernel
theorem dX8_countAgreeing_31 : decode cX8_countAgreeing 31 = .ok (.aload_n 0, 1) := by decide +kernel
theorem dX8_countAgreeing_32 : decode cX8_countAgreeing 32 = .ok (.iload 5, 2) := by decide +kernel
theorem dX8_countAgreeing_34 : decode cX8_countAgreeing 34 = .ok (.putfield 118, 3) := by decide +kernel
theorem dX8_countAgreeing_37 : decode cX8_countAgreeing 37 = .ok (.iinc 4 1, 3) := by decide +kernel
theorem dX8_countAgreeing_40 : decode cX8_countAgreeing 40 = .ok (.iinc 5 1, 3) := by decide +kernel
theorem dX8_countAgreeing_43 : decode cX8_countAgreeing 43 = .ok (.goto (-37), 3) := by decide +kernel
theorem dX8_countAgreeing_46 : decode cX8_countAgreeing 46 = .ok (.iload 4, 2) := by decide +kernel
theorem dX8_countAgreeing_48 : decode cX8_countAgreeing 48 = .ok (.ireturn, 1) := by decide +kernel
theorem dX8_agrees_0 : decode cX8_agrees 0 = .ok (.iload_n 3, 1) := by decide +kernel
theorem dX8_agrees_1 : decode cX8_agrees 1 = .ok (.istore 5, 2) := by decide +kernel
theorem dX8_agrees_3 : decode cX8_agrees 3 = .ok (.iload 5, 2) := by decide +kernel
theorem dX8_agrees_5 : decode cX8_agrees 5 = .ok (.iload_n 3, 1) := by decide +kernel
theorem dX8_agrees_6 : decode cX8_agrees 6 = .ok (.iconst 2, 1) := by decide +kernel
theorem dX8_agrees_7 : decode cX8_agrees 7 = .ok (.iload 4, 2) := by decide +kernel
theorem dX8_agrees_9 : decode cX8_agrees 9 = .ok (.imul, 1) := by decide +kernel
theorem dX8_agrees_10 : decode cX8_agrees 10 = .ok (.iadd, 1) := by decide +kernel
theorem dX8_agrees_11 : decode cX8_agrees 11 = .ok (.if_icmp .ge 52, 3) := by decide +kernel
theorem dX8_agrees_14 : decode cX8_agrees 14 = .ok (.aload_n 2, 1) := by decide +kernel
theorem dX8_agrees_15 : decode cX8_agrees 15 = .ok (.iload 5, 2) := by decide +kernel
theorem dX8_agrees_17 : decode cX8_agrees 17 = .ok (.invokevirtual 121, 3) := by decide +kernel
theorem dX8_agrees_20 : decode cX8_agrees 20 = .ok (.istore 6, 2) := by decide +kernel
theorem dX8_agrees_22 : decode cX8_agrees 22 = .ok (.iload 6, 2) := by decide +kernel
theorem dX8_agrees_24 : decode cX8_agrees 24 = .ok (.bipush 12, 2) := by decide +kernel
theorem dX8_agrees_26 : decode cX8_agrees 26 = .ok (.invokestatic 91, 3) := by decide +kernel
theorem dX8_agrees_29 : decode cX8_agrees 29 = .ok (.ifCond .eq 26, 3) := by decide +kernel
theorem dX8_agrees_32 : decode cX8_agrees 32 = .ok (.aload_n 0, 1) := by decide +kernel
theorem dX8_agrees_33 : decode cX8_agrees 33 = .ok (.getfield 42, 3) := by decide +kernel
theorem dX8_agrees_36 : decode cX8_agrees 36 = .ok (.iload_n 1, 1) := by decide +kernel
theorem dX8_agrees_37 : decode cX8_agrees 37 = .ok (.bipush 12, 2) := by decide +kernel
theorem dX8_agrees_39 : decode cX8_agrees 39 = .ok (.imul, 1) := by decide +kernel
theorem dX8_agrees_40 : decode cX8_agrees 40 = .ok (.iload 6, 2) := by decide +kernel
theorem dX8_agrees_42 : decode cX8_agrees 42 = .ok (.iadd, 1) := by decide +kernel
theorem dX8_agrees_43 : decode cX8_agrees 43 = .ok (.iaload, 1) := by decide +kernel
theorem dX8_agrees_44 : decode cX8_agrees 44 = .ok (.aload_n 2, 1) := by decide +kernel
theorem dX8_agrees_45 : decode cX8_agrees 45 = .ok (.iload 5, 2) := by decide +kernel
theorem dX8_agrees_47 : decode cX8_agrees 47 = .ok (.iconst 1, 1) := by decide +kernel
theorem dX8_agrees_48 : decode cX8_agrees 48 = .ok (.iadd, 1) := by decide +kernel
theorem dX8_agrees_49 : decode cX8_agrees 49 = .ok (.invokevirtual 121, 3) := by decide +kernel
theorem dX8_agrees_52 : decode cX8_agrees 52 = .ok (.if_icmp .eq 5, 3) := by decide +kernel
theorem dX8_agrees_55 : decode cX8_agrees 55 = .ok (.iconst 0, 1) := by decide +kernel
theorem dX8_agrees_56 : decode cX8_agrees 56 = .ok (.ireturn, 1) := by decide +kernel
theorem dX8_agrees_57 : decode cX8_agrees 57 = .ok (.iinc 5 2, 3) := by decide +kernel
theorem dX8_agrees_60 : decode cX8_agrees 60 = .ok (.goto (-57), 3) := by decide +kernel
theorem dX8_agrees_63 : decode cX8_agrees 63 = .ok (.iconst 1, 1) := by decide +kernel
theorem dX8_agrees_64 : decode cX8_agrees 64 = .ok (.ireturn, 1) := by decide +kernel
theorem dX8_firstMotor_0 : decode cX8_firstMotor 0 = .ok (.aload_n 0, 1) := by decide +kernel
theorem dX8_firstMotor_1 : decode cX8_firstMotor 1 = .ok (.getfield 118, 3) := by decide +kernel
theorem dX8_firstMotor_4 : decode cX8_firstMotor 4 = .ok (.bipush 9, 2) := by decide +kernel
theorem dX8_firstMotor_6 : decode cX8_firstMotor 6 = .ok (.idiv, 1) := by decide +kernel
theorem dX8_firstMotor_7 : decode cX8_firstMotor 7 = .ok (.ireturn, 1) := by decide +kernel
theorem dX8_firstDrag_0 : decode cX8_firstDrag 0 = .ok (.iconst 1, 1) := by decide +kernel
theorem dX8_firstDrag_1 : decode cX8_firstDrag 1 = .ok (.aload_n 0, 1) := by decide +kernel
theorem dX8_firstDrag_2 : decode cX8_firstDrag 2 = .ok (.getfield 118, 3) := by decide +kernel
theorem dX8_firstDrag_5 : decode cX8_firstDrag 5 = .ok (.bipush 9, 2) := by decide +kernel
theorem dX8_firstDrag_7 : decode cX8_firstDrag 7 = .ok (.irem, 1) := by decide +kernel
theorem dX8_firstDrag_8 : decode cX8_firstDrag 8 = .ok (.iadd, 1) := by decide +kernel
theorem dX8_firstDrag_9 : decode cX8_firstDrag 9 = .ok (.ireturn, 1) := by decide +kernel
theorem dX8_findOrder_0 : decode cX8_findOrder 0 = .ok (.aload_n 0, 1) := by decide +kernel
theorem dX8_findOrder_1 : decode cX8_findOrder 1 = .ok (.getfield 28, 3) := by decide +kernel
theorem dX8_findOrder_4 : decode cX8_findOrder 4 = .ok (.getfield 56, 3) := by decide +kernel
theorem dX8_findOrder_7 : decode cX8_findOrder 7 = .ok (.iload_n 2, 1) := by decide +kernel
theorem dX8_findOrder_8 : decode cX8_findOrder 8 = .ok (.if_icmp .ne 4, 3) := by decide +kernel
theorem dX8_findOrder_11 : decode cX8_findOrder 11 = .ok (.return_, 1) := by decide +kernel
theorem dX8_findOrder_12 : decode cX8_findOrder 12 = .ok (.aload_n 0, 1) := by decide +kernel
theorem dX8_findOrder_13 : decode cX8_findOrder 13 = .ok (.getfield 12, 3) := by decide +kernel
theorem dX8_findOrder_16 : decode cX8_findOrder 16 = .ok (.aload_n 1, 1) := by decide +kernel
theorem dX8_findOrder_17 : decode cX8_findOrder 17 = .ok (.invokevirtual 59, 3) := by decide +kernel
theorem dX8_findOrder_20 : decode cX8_findOrder 20 = .ok (.aload_n 0, 1) := by decide +kernel
theorem dX8_findOrder_21 : decode cX8_findOrder 21 = .ok (.getfield 28, 3) := by decide +kernel
theorem dX8_findOrder_24 : decode cX8_findOrder 24 = .ok (.aload_n 1, 1) := by decide +kernel
theorem dX8_findOrder_25 : decode cX8_findOrder 25 = .ok (.iload_n 2, 1) := by decide +kernel
theorem dX8_findOrder_26 : decode cX8_findOrder 26 = .ok (.invokevirtual 126, 3) := by decide +kernel
theorem dX8_findOrder_29 : decode cX8_findOrder 29 = .ok (.iconst 0, 1) := by decide +kernel
theorem dX8_findOrder_30 : decode cX8_findOrder 30 = .ok (.istore_n 3, 1) := by decide +kernel
theorem dX8_findOrder_31 : decode cX8_findOrder 31 = .ok (.iload_n 3, 1) := by decide +kernel
theorem dX8_findOrder_32 : decode cX8_findOrder 32 = .ok (.sipush 720, 3) := by decide +kernel
theorem dX8_findOrder_35 : decode cX8_findOrder 35 = .ok (.if_icmp .ge 92, 3) := by decide +kernel
theorem dX8_findOrder_38 : decode cX8_findOrder 38 = .ok (.aload_n 0, 1) := by decide +kernel
theorem dX8_findOrder_39 : decode cX8_findOrder 39 = .ok (.getfield 28, 3) := by decide +kernel
theorem dX8_findOrder_42 : decode cX8_findOrder 42 = .ok (.invokevirtual 127, 3) := by decide +kernel
theorem dX8_findOrder_45 : decode cX8_findOrder 45 = .ok (.ifCond .eq 65, 3) := by decide +kernel
theorem dX8_findOrder_48 : decode cX8_findOrder 48 = .ok (.aload_n 0, 1) := by decide +kernel
theorem dX8_findOrder_49 : decode cX8_findOrder 49 = .ok (.getfield 28, 3) := by decide +kernel
theorem dX8_findOrder_52 : decode cX8_findOrder 52 = .ok (.aload_n 0, 1) := by decide +kernel
theorem dX8_findOrder_53 : decode cX8_findOrder 53 = .ok (.getfield 12, 3) := by decide +kernel
theorem dX8_findOrder_56 : decode cX8_findOrder 56 = .ok (.invokevirtual 131, 3) := by decide +kernel
theorem dX8_findOrder_59 : decode cX8_findOrder 59 = .ok (.aload_n 0, 1) := by decide +kernel
theorem dX8_findOrder_60 : decode cX8_findOrder 60 = .ok (.getfield 21, 3) := by decide +kernel
theorem dX8_findOrder_63 : decode cX8_findOrder 63 = .ok (.aload_n 0, 1) := by decide +kernel
theorem dX8_findOrder_64 : decode cX8_findOrder 64 = .ok (.getfield 12, 3) := by decide +kernel
theorem dX8_findOrder_67 : decode cX8_findOrder 67 = .ok (.aload_n 0, 1) := by decide +kernel
theorem dX8_findOrder_68 : decode cX8_findOrder 68 = .ok (.getfield 12, 3) := by decide +kernel
theorem dX8_findOrder_71 : decode cX8_findOrder 71 = .ok (.invokevirtual 66, 3) := by decide +kernel
theorem dX8_findOrder_74 : decode cX8_findOrder 74 = .ok (.invokevirtual 70, 3) := by decide +kernel
theorem dX8_findOrder_77 : decode cX8_findOrder 77 = .ok (.aload_n 0, 1) := by decide +kernel
theorem dX8_findOrder_78 : decode cX8_findOrder 78 = .ok (.getfield 21, 3) := by decide +kernel
theorem dX8_findOrder_81 : decode cX8_findOrder 81 = .ok (.aload_n 0, 1) := by decide +kernel
theorem dX8_findOrder_82 : decode cX8_findOrder 82 = .ok (.getfield 28, 3) := by decide +kernel
theorem dX8_findOrder_85 : decode cX8_findOrder 85 = .ok (.getfield 134, 3) := by decide +kernel
theorem dX8_findOrder_88 : decode cX8_findOrder 88 = .ok (.iconst 1, 1) := by decide +kernel
theorem dX8_findOrder_89 : decode cX8_findOrder 89 = .ok (.invokevirtual 74, 3) := by decide +kernel
theorem dX8_findOrder_92 : decode cX8_findOrder 92 = .ok (.aload_n 0, 1) := by decide +kernel
theorem dX8_findOrder_93 : decode cX8_findOrder 93 = .ok (.getfield 28, 3) := by decide +kernel
theorem dX8_findOrder_96 : decode cX8_findOrder 96 = .ok (.aload_n 0, 1) := by decide +kernel
theorem dX8_findOrder_97 : decode cX8_findOrder 97 = .ok (.getfield 21, 3) := by decide +kernel
theorem dX8_findOrder_100 : decode cX8_findOrder 100 = .ok (.getfield 78, 3) := by decide +kernel
theorem dX8_findOrder_103 : decode cX8_findOrder 103 = .ok (.aload_n 0, 1) := by decide +kernel
theorem dX8_findOrder_104 : decode cX8_findOrder 104 = .ok (.getfield 12, 3) := by decide +kernel
theorem dX8_findOrder_107 : decode cX8_findOrder 107 = .ok (.invokevirtual 137, 3) := by decide +kernel
theorem dX8_findOrder_110 : decode cX8_findOrder 110 = .ok (.aload_n 0, 1) := by decide +kernel
theorem dX8_findOrder_111 : decode cX8_findOrder 111 = .ok (.getfield 28, 3) := by decide +kernel
theorem dX8_findOrder_114 : decode cX8_findOrder 114 = .ok (.invokevirtual 141, 3) := by decide +kernel
theorem dX8_findOrder_117 : decode cX8_findOrder 117 = .ok (.ifCond .ne 4, 3) := by decide +kernel
theorem dX8_findOrder_120 : decode cX8_findOrder 120 = .ok (.return_, 1) := by decide +kernel
theorem dX8_findOrder_121 : decode cX8_findOrder 121 = .ok (.iinc 3 1, 3) := by decide +kernel
theorem dX8_findOrder_124 : decode cX8_findOrder 124 = .ok (.goto (-93), 3) := by decide +kernel
theorem dX8_findOrder_127 : decode cX8_findOrder 127 = .ok (.return_, 1) := by decide +kernel
theorem dX9_init_0 : decode cX9_init 0 = .ok (.aload_n 0, 1) := by decide +kernel
theorem dX9_init_1 : decode cX9_init 1 = .ok (.invokespecial 3, 3) := by decide +kernel
theorem dX9_init_4 : decode cX9_init 4 = .ok (.aload_n 0, 1) := by decide +kernel
theorem dX9_init_5 : decode cX9_init 5 = .ok (.new 9, 3) := by decide +kernel
theorem dX9_init_8 : decode cX9_init 8 = .ok (.dup, 1) := by decide +kernel
theorem dX9_init_9 : decode cX9_init 9 = .ok (.invokespecial 11, 3) := by decide +kernel
theorem dX9_init_12 : decode cX9_init 12 = .ok (.putfield 12, 3) := by decide +kernel
theorem dX9_init_15 : decode cX9_init 15 = .ok (.aload_n 0, 1) := by decide +kernel
theorem dX9_init_16 : decode cX9_init 16 = .ok (.new 9, 3) := by decide +kernel
theorem dX9_init_19 : decode cX9_init 19 = .ok (.dup, 1) := by decide +kernel
theorem dX9_init_20 : decode cX9_init 20 = .ok (.invokespecial 11, 3) := by decide +kernel
theorem dX9_init_23 : decode cX9_init 23 = .ok (.putfield 16, 3) := by decide +kernel
theorem dX9_init_26 : decode cX9_init 26 = .ok (.aload_n 0, 1) := by decide +kernel
theorem dX9_init_27 : decode cX9_init 27 = .ok (.new 19, 3) := by decide +kernel
theorem dX9_init_30 : decode cX9_init 30 = .ok (.dup, 1) := by decide +kernel
theorem dX9_init_31 : decode cX9_init 31 = .ok (.invokespecial 21, 3) := by decide +kernel
theorem dX9_init_34 : decode cX9_init 34 = .ok (.putfield 22, 3) := by decide +kernel
theorem dX9_init_37 : decode cX9_init 37 = .ok (.aload_n 0, 1) := by decide +kernel
theorem dX9_init_38 : decode cX9_init 38 = .ok (.iconst 4, 1) := by decide +kernel
theorem dX9_init_39 : decode cX9_init 39 = .ok (.anewarray 26, 3) := by decide +kernel
theorem dX9_init_42 : decode cX9_init 42 = .ok (.putfield 28, 3) := by decide +kernel
theorem dX9_init_45 : decode cX9_init 45 = .ok (.aload_n 0, 1) := by decide +kernel
theorem dX9_init_46 : decode cX9_init 46 = .ok (.new 32, 3) := by decide +kernel
theorem dX9_init_49 : decode cX9_init 49 = .ok (.dup, 1) := by decide +kernel
theorem dX9_init_50 : decode cX9_init 50 = .ok (.invokespecial 34, 3) := by decide +kernel
theorem dX9_init_53 : decode cX9_init 53 = .ok (.putfield 35, 3) := by decide +kernel
theorem dX9_init_56 : decode cX9_init 56 = .ok (.aload_n 0, 1) := by decide +kernel
theorem dX9_init_57 : decode cX9_init 57 = .ok (.new 39, 3) := by decide +kernel
theorem dX9_init_60 : decode cX9_init 60 = .ok (.dup, 1) := by decide +kernel
theorem dX9_init_61 : decode cX9_init 61 = .ok (.invokespecial 41, 3) := by decide +kernel
theorem dX9_init_64 : decode cX9_init 64 = .ok (.putfield 42, 3) := by decide +kernel
theorem dX9_init_67 : decode cX9_init 67 = .ok (.aload_n 0, 1) := by decide +kernel
theorem dX9_init_68 : decode cX9_init 68 = .ok (.new 46, 3) := by decide +kernel
theorem dX9_init_71 : decode cX9_init 71 = .ok (.dup, 1) := by decide +kernel
theorem dX9_init_72 : decode cX9_init 72 = .ok (.invokespecial 48, 3) := by decide +kernel
theorem dX9_init_75 : decode cX9_init 75 = .ok (.putfield 49, 3) := by decide +kernel
theorem dX9_init_78 : decode cX9_init 78 = .ok (.iconst 0, 1) := by decide +kernel
theorem dX9_init_79 : decode cX9_init 79 = .ok (.istore_n 1, 1) := by decide +kernel
theorem dX9_init_80 : decode cX9_init 80 = .ok (.iload_n 1, 1) := by decide +kernel
theorem dX9_init_81 : decode cX9_init 81 = .ok (.aload_n 0, 1) := by decide +kernel
theorem dX9_init_82 : decode cX9_init 82 = .ok (.getfield 28, 3) := by decide +kernel
theorem dX9_init_85 : decode cX9_init 85 = .ok (.arraylength, 1) := by decide +kernel
theorem dX9_init_86 : decode cX9_init 86 = .ok (.if_icmp .ge 22, 3) := by decide +kernel
theorem dX9_init_89 : decode cX9_init 89 = .ok (.aload_n 0, 1) := by decide +kernel
theorem dX9_init_90 : decode cX9_init 90 = .ok (.getfield 28, 3) := by decide +kernel
theorem dX9_init_93 : decode cX9_init 93 = .ok (.iload_n 1, 1) := by decide +kernel
theorem dX9_init_94 : decode cX9_init 94 = .ok (.new 26, 3) := by decide +kernel
theorem dX9_init_97 : decode cX9_init 97 = .ok (.dup, 1) := by decide +kernel
theorem dX9_init_98 : decode cX9_init 98 = .ok (.invokespecial 53, 3) := by decide +kernel
theorem dX9_init_101 : decode cX9_init 101 = .ok (.aastore, 1) := by decide +kernel
theorem dX9_init_102 : decode cX9_init 102 = .ok (.iinc 1 1, 3) := by decide +kernel
theorem dX9_init_105 : decode cX9_init 105 = .ok (.goto (-25), 3) := by decide +kernel
theorem dX9_init_108 : decode cX9_init 108 = .ok (.return_, 1) := by decide +kernel
theorem dX9_set_0 : decode cX9_set 0 = .ok (.iload_n 1, 1) := by decide +kernel
theorem dX9_set_1 : decode cX9_set 1 = .ok (.bipush 9, 2) := by decide +kernel
theorem dX9_set_3 : decode cX9_set 3 = .ok (.invokestatic 54, 3) := by decide +kernel
theorem dX9_set_6 : decode cX9_set 6 = .ok (.ifCond .eq 21, 3) := by decide +kernel
theorem dX9_set_9 : decode cX9_set 9 = .ok (.iload_n 2, 1) := by decide +kernel
theorem dX9_set_10 : decode cX9_set 10 = .ok (.getstatic 58, 3) := by decide +kernel
theorem dX9_set_13 : decode cX9_set 13 = .ok (.iload_n 1, 1) := by decide +kernel
theorem dX9_set_14 : decode cX9_set 14 = .ok (.iaload, 1) := by decide +kernel
theorem dX9_set_15 : decode cX9_set 15 = .ok (.if_icmp .lt 12, 3) := by decide +kernel
theorem dX9_set_18 : decode cX9_set 18 = .ok (.iload_n 2, 1) := by decide +kernel
theorem dX9_set_19 : decode cX9_set 19 = .ok (.getstatic 62, 3) := by decide +kernel
theorem dX9_set_22 : decode cX9_set 22 = .ok (.iload_n 1, 1) := by decide +kernel
theorem dX9_set_23 : decode cX9_set 23 = .ok (.iaload, 1) := by decide +kernel
theorem dX9_set_24 : decode cX9_set 24 = .ok (.if_icmp .le 5, 3) := by decide +kernel
theorem dX9_set_27 : decode cX9_set 27 = .ok (.iconst (-1), 1) := by decide +kernel
theorem dX9_set_28 : decode cX9_set 28 = .ok (.ireturn, 1) := by decide +kernel
theorem dX9_set_29 : decode cX9_set 29 = .ok (.aload_n 0, 1) := by decide +kernel
theorem dX9_set_30 : decode cX9_set 30 = .ok (.getfield 12, 3) := by decide +kernel
theorem dX9_set_33 : decode cX9_set 33 = .ok (.getfield 65, 3) := by decide +kernel
theorem dX9_set_36 : decode cX9_set 36 = .ok (.iload_n 1, 1) := by decide +kernel
theorem dX9_set_37 : decode cX9_set 37 = .ok (.iaload, 1) := by decide +kernel
theorem dX9_set_38 : decode cX9_set 38 = .ok (.istore_n 3, 1) := by decide +kernel
theorem dX9_set_39 : decode cX9_set 39 = .ok (.aload_n 0, 1) := by decide +kernel
theorem dX9_set_40 : decode cX9_set 40 = .ok (.getfield 12, 3) := by decide +kernel
theorem dX9_set_43 : decode cX9_set 43 = .ok (.getfield 65, 3) := by decide +kernel
theorem dX9_set_46 : decode cX9_set 46 = .ok (.iload_n 1, 1) := by decide +kernel
theorem dX9_set_47 : decode cX9_set 47 = .ok (.iload_n 2, 1) := by decide +kernel
theorem dX9_set_48 : decode cX9_set 48 = .ok (.iastore, 1) := by decide +kernel
theorem dX9_set_49 : decode cX9_set 49 = .ok (.aload_n 0, 1) := by decide +kernel
theorem dX9_set_50 : decode cX9_set 50 = .ok (.invokevirtual 68, 3) := by decide +kernel
theorem dX9_set_53 : decode cX9_set 53 = .ok (.iload_n 3, 1) := by decide +kernel
theorem dX9_set_54 : decode cX9_set 54 = .ok (.ireturn, 1) := by decide +kernel
theorem dX9_share_0 : decode cX9_share 0 = .ok (.iload_n 1, 1) := by decide +kernel
theorem dX9_share_1 : decode cX9_share 1 = .ok (.aload_n 0, 1) := by decide +kernel
theorem dX9_share_2 : decode cX9_share 2 = .ok (.getfield 12, 3) := by decide +kernel
theorem dX9_share_5 : decode cX9_share 5 = .ok (.getfield 65, 3) := by decide +kernel
theorem dX9_share_8 : decode cX9_share 8 = .ok (.iconst 0, 1) := by decide +kernel
theorem dX9_share_9 : decode cX9_share 9 = .ok (.iaload, 1) := by decide +kernel
theorem dX9_share_10 : decode cX9_share 10 = .ok (.invokestatic 54, 3) := by decide +kernel
theorem dX9_share_13 : decode cX9_share 13 = .ok (.ifCond .eq 20, 3) := by decide +kernel
theorem dX9_share_16 : decode cX9_share 16 = .ok (.iload_n 2, 1) := by decide +kernel
theorem dX9_share_17 : decode cX9_share 17 = .ok (.iconst 2, 1) := by decide +kernel
theorem dX9_share_18 : decode cX9_share 18 = .ok (.invokestatic 54, 3) := by decide +kernel
theorem dX9_share_21 : decode cX9_share 21 = .ok (.ifCond .eq 12, 3) := by decide +kernel
theorem dX9_share_24 : decode cX9_share 24 = .ok (.iload_n 3, 1) := by decide +kernel
theorem dX9_share_25 : decode cX9_share 25 = .ok (.bipush 12, 2) := by decide +kernel
theorem dX9_share_27 : decode cX9_share 27 = .ok (.invokestatic 54, 3) := by decide +kernel
theorem dX9_share_30 : decode cX9_share 30 = .ok (.ifCond .ne 5, 3) := by decide +kernel
theorem dX9_share_33 : decode cX9_share 33 = .ok (.iconst (-1), 1) := by decide +kernel
theorem dX9_share_34 : decode cX9_share 34 = .ok (.ireturn, 1) := by decide +kernel
theorem dX9_share_35 : decode cX9_share 35 = .ok (.aload_n 0, 1) := by decide +kernel
theorem dX9_share_36 : decode cX9_share 36 = .ok (.getfield 12, 3) := by decide +kernel
theorem dX9_share_39 : decode cX9_share 39 = .ok (.getfield 65, 3) := by decide +kernel
theorem dX9_share_42 : decode cX9_share 42 = .ok (.iconst 0, 1) := by decide +kernel
theorem dX9_share_43 : decode cX9_share 43 = .ok (.iaload, 1) := by decide +kernel
theorem dX9_share_44 : decode cX9_share 44 = .ok (.iload_n 1, 1) := by decide +kernel
theorem dX9_share_45 : decode cX9_share 45 = .ok (.iload_n 2, 1) := by decide +kernel
theorem dX9_share_46 : decode cX9_share 46 = .ok (.iload_n 3, 1) := by decide +kernel
theorem dX9_share_47 : decode cX9_share 47 = .ok (.invokestatic 71, 3) := by decide +kernel
theorem dX9_share_50 : decode cX9_share 50 = .ok (.ireturn, 1) := by decide +kernel
theorem dX9_open_0 : decode cX9_open 0 = .ok (.iload_n 1, 1) := by decide +kernel
theorem dX9_open_1 : decode cX9_open 1 = .ok (.iconst 2, 1) := by decide +kernel
theorem dX9_open_2 : decode cX9_open 2 = .ok (.invokestatic 54, 3) := by decide +kernel
theorem dX9_open_5 : decode cX9_open 5 = .ok (.ifCond .eq 12, 3) := by decide +kernel
theorem dX9_open_8 : decode cX9_open 8 = .ok (.iload_n 2, 1) := by decide +kernel
theorem dX9_open_9 : decode cX9_open 9 = .ok (.bipush 12, 2) := by decide +kernel
theorem dX9_open_11 : decode cX9_open 11 = .ok (.invokestatic 54, 3) := by decide +kernel
theorem dX9_open_14 : decode cX9_open 14 = .ok (.ifCond .ne 5, 3) := by decide +kernel
theorem dX9_open_17 : decode cX9_open 17 = .ok (.iconst (-1), 1) := by decide +kernel
theorem dX9_open_18 : decode cX9_open 18 = .ok (.ireturn, 1) := by decide +kernel
theorem dX9_open_19 : decode cX9_open 19 = .ok (.aload_n 0, 1) := by decide +kernel
theorem dX9_open_20 : decode cX9_open 20 = .ok (.getfield 12, 3) := by decide +kernel
theorem dX9_open_23 : decode cX9_open 23 = .ok (.getfield 65, 3) := by decide +kernel
theorem dX9_open_26 : decode cX9_open 26 = .ok (.iconst 0, 1) := by decide +kernel
theorem dX9_open_27 : decode cX9_open 27 = .ok (.iaload, 1) := by decide +kernel
theorem dX9_open_28 : decode cX9_open 28 = .ok (.aload_n 0, 1) := by decide +kernel
theorem dX9_open_29 : decode cX9_open 29 = .ok (.getfield 12, 3) := by decide +kernel
theorem dX9_open_32 : decode cX9_open 32 = .ok (.getfield 65, 3) := by decide +kernel
theorem dX9_open_35 : decode cX9_open 35 = .ok (.iconst 1, 1) := by decide +kernel
theorem dX9_open_36 : decode cX9_open 36 = .ok (.iaload, 1) := by decide +kernel
theorem dX9_open_37 : decode cX9_open 37 = .ok (.iload_n 1, 1) := by decide +kernel
theorem dX9_open_38 : decode cX9_open 38 = .ok (.iload_n 2, 1) := by decide +kernel
theorem dX9_open_39 : decode cX9_open 39 = .ok (.invokestatic 77, 3) := by decide +kernel
theorem dX9_open_42 : decode cX9_open 42 = .ok (.ireturn, 1) := by decide +kernel
theorem dX9_person_0 : decode cX9_person 0 = .ok (.iload_n 1, 1) := by decide +kernel
theorem dX9_person_1 : decode cX9_person 1 = .ok (.bipush 120, 2) := by decide +kernel
theorem dX9_person_3 : decode cX9_person 3 = .ok (.invokestatic 54, 3) := by decide +kernel
theorem dX9_person_6 : decode cX9_person 6 = .ok (.ifCond .eq 20, 3) := by decide +kernel
theorem dX9_person_9 : decode cX9_person 9 = .ok (.iload_n 2, 1) := by decide +kernel
theorem dX9_person_10 : decode cX9_person 10 = .ok (.iconst 2, 1) := by decide +kernel
theorem dX9_person_11 : decode cX9_person 11 = .ok (.invokestatic 54, 3) := by decide +kernel
theorem dX9_person_14 : decode cX9_person 14 = .ok (.ifCond .eq 12, 3) := by decide +kernel
theorem dX9_person_17 : decode cX9_person 17 = .ok (.iload_n 3, 1) := by decide +kernel
theorem dX9_person_18 : decode cX9_person 18 = .ok (.bipush 6, 2) := by decide +kernel
theorem dX9_person_20 : decode cX9_person 20 = .ok (.invokestatic 54, 3) := by decide +kernel
theorem dX9_person_23 : decode cX9_person 23 = .ok (.ifCond .ne 5, 3) := by decide +kernel
theorem dX9_person_26 : decode cX9_person 26 = .ok (.iconst (-1), 1) := by decide +kernel
theorem dX9_person_27 : decode cX9_person 27 = .ok (.ireturn, 1) := by decide +kernel
theorem dX9_person_28 : decode cX9_person 28 = .ok (.aload_n 0, 1) := by decide +kernel
theorem dX9_person_29 : decode cX9_person 29 = .ok (.getfield 12, 3) := by decide +kernel
theorem dX9_person_32 : decode cX9_person 32 = .ok (.getfield 80, 3) := by decide +kernel
theorem dX9_person_35 : decode cX9_person 35 = .ok (.bipush 12, 2) := by decide +kernel
theorem dX9_person_37 : decode cX9_person 37 = .ok (.if_icmp .lt 6, 3) := by decide +kernel
theorem dX9_person_40 : decode cX9_person 40 = .ok (.bipush (-3), 2) := by decide +kernel
theorem dX9_person_42 : decode cX9_person 42 = .ok (.ireturn, 1) := by decide +kernel
theorem dX9_person_43 : decode cX9_person 43 = .ok (.aload_n 0, 1) := by decide +kernel
theorem dX9_person_44 : decode cX9_person 44 = .ok (.getfield 12, 3) := by decide +kernel
theorem dX9_person_47 : decode cX9_person 47 = .ok (.iload_n 1, 1) := by decide +kernel
theorem dX9_person_48 : decode cX9_person 48 = .ok (.iload_n 2, 1) := by decide +kernel
theorem dX9_person_49 : decode cX9_person 49 = .ok (.iload_n 3, 1) := by decide +kernel
theorem dX9_person_50 : decode cX9_person 50 = .ok (.invokevirtual 84, 3) := by decide +kernel
theorem dX9_person_53 : decode cX9_person 53 = .ok (.aload_n 0, 1) := by decide +kernel
theorem dX9_person_54 : decode cX9_person 54 = .ok (.invokevirtual 68, 3) := by decide +kernel
theorem dX9_person_57 : decode cX9_person 57 = .ok (.aload_n 0, 1) := by decide +kernel
theorem dX9_person_58 : decode cX9_person 58 = .ok (.getfield 12, 3) := by decide +kernel
theorem dX9_person_61 : decode cX9_person 61 = .ok (.getfield 80, 3) := by decide +kernel
theorem dX9_person_64 : decode cX9_person 64 = .ok (.iconst 1, 1) := by decide +kernel
theorem dX9_person_65 : decode cX9_person 65 = .ok (.isub, 1) := by decide +kernel
theorem dX9_person_66 : decode cX9_person 66 = .ok (.ireturn, 1) := by decide +kernel
theorem dX9_told_0 : decode cX9_told 0 = .ok (.aload_n 0, 1) := by decide +kernel
theorem dX9_told_1 : decode cX9_told 1 = .ok (.getfield 12, 3) := by decide +kernel
theorem dX9_told_4 : decode cX9_told 4 = .ok (.iload_n 1, 1) := by decide +kernel
theorem dX9_told_5 : decode cX9_told 5 = .ok (.invokevirtual 88, 3) := by decide +kernel
theorem dX9_told_8 : decode cX9_told 8 = .ok (.ifCond .ne 5, 3) := by decide +kernel
theorem dX9_told_11 : decode cX9_told 11 = .ok (.iconst (-1), 1) := by decide +kernel
theorem dX9_told_12 : decode cX9_told 12 = .ok (.ireturn, 1) := by decide +kernel
theorem dX9_told_13 : decode cX9_told 13 = .ok (.iload_n 2, 1) := by decide +kernel
theorem dX9_told_14 : decode cX9_told 14 = .ok (.tableswitch 82 0 4 #[34, 44, 54, 64, 73], 34) := by decide +kernel
theorem dX9_told_48 : decode cX9_told 48 = .ok (.aload_n 0, 1) := by decide +kernel
theorem dX9_told_49 : decode cX9_told 49 = .ok (.getfield 12, 3) := by decide +kernel
theorem dX9_told_52 : decode cX9_told 52 = .ok (.getfield 92, 3) := by decide +kernel
theorem dX9_told_55 : decode cX9_told 55 = .ok (.iload_n 1, 1) := by decide +kernel
theorem dX9_told_56 : decode cX9_told 56 = .ok (.iaload, 1) := by decide +kernel
theorem dX9_told_57 : decode cX9_told 57 = .ok (.ireturn, 1) := by decide +kernel
theorem dX9_told_58 : decode cX9_told 58 = .ok (.aload_n 0, 1) := by decide +kernel
theorem dX9_told_59 : decode cX9_told 59 = .ok (.getfield 12, 3) := by decide +kernel
theorem dX9_told_62 : decode cX9_told 62 = .ok (.getfield 95, 3) := by decide +kernel
theorem dX9_told_65 : decode cX9_told 65 = .ok (.iload_n 1, 1) := by decide +kernel
theorem dX9_told_66 : decode cX9_told 66 = .ok (.iaload, 1) := by decide +kernel
theorem dX9_told_67 : decode cX9_told 67 = .ok (.ireturn, 1) := by decide +kernel
theorem dX9_told_68 : decode cX9_told 68 = .ok (.aload_n 0, 1) := by decide +kernel
theorem dX9_told_69 : decode cX9_told 69 = .ok (.getfield 12, 3) := by decide +kernel
theorem dX9_told_72 : decode cX9_told 72 = .ok (.getfield 98, 3) := by decide +kernel
theorem dX9_told_75 : decode cX9_told 75 = .ok (.iload_n 1, 1) := by decide +kernel
theorem dX9_told_76 : decode cX9_told 76 = .ok (.iaload, 1) := by decide +kernel
theorem dX9_told_77 : decode cX9_told 77 = .ok (.ireturn, 1) := by decide +kernel
theorem dX9_told_78 : decode cX9_told 78 = .ok (.aload_n 0, 1) := by decide +kernel
theorem dX9_told_79 : decode cX9_told 79 = .ok (.getfield 12, 3) := by decide +kernel
theorem dX9_told_82 : decode cX9_told 82 = .ok (.iload_n 1, 1) := by decide +kernel
theorem dX9_told_83 : decode cX9_told 83 = .ok (.invokevirtual 101, 3) := by decide +kernel
theorem dX9_told_86 : decode cX9_told 86 = .ok (.ireturn, 1) := by decide +kernel
theorem dX9_told_87 : decode cX9_told 87 = .ok (.aload_n 0, 1) := by decide +kernel
theorem dX9_told_88 : decode cX9_told 88 = .ok (.getfield 12, 3) := by decide +kernel
theorem dX9_told_91 : decode cX9_told 91 = .ok (.iload_n 1, 1) := by decide +kernel
theorem dX9_told_92 : decode cX9_told 92 = .ok (.invokevirtual 105, 3) := by decide +kernel
theorem dX9_told_95 : decode cX9_told 95 = .ok (.ireturn, 1) := by decide +kernel
theorem dX9_told_96 : decode cX9_told 96 = .ok (.iconst (-1), 1) := by decide +kernel
theorem dX9_told_97 : decode cX9_told 97 = .ok (.ireturn, 1) := by decide +kernel
theorem dX9_delay_0 : decode cX9_delay 0 = .ok (.aload_n 0, 1) := by decide +kernel
theorem dX9_delay_1 : decode cX9_delay 1 = .ok (.getfield 12, 3) := by decide +kernel
theorem dX9_delay_4 : decode cX9_delay 4 = .ok (.iload_n 1, 1) := by decide +kernel
theorem dX9_delay_5 : decode cX9_delay 5 = .ok (.invokevirtual 88, 3) := by decide +kernel
theorem dX9_delay_8 : decode cX9_delay 8 = .ok (.ifCond .eq 12, 3) := by decide +kernel
theorem dX9_delay_11 : decode cX9_delay 11 = .ok (.iload_n 2, 1) := by decide +kernel
theorem dX9_delay_12 : decode cX9_delay 12 = .ok (.bipush 120, 2) := by decide +kernel
theorem dX9_delay_14 : decode cX9_delay 14 = .ok (.invokestatic 54, 3) := by decide +kernel
theorem dX9_delay_17 : decode cX9_delay 17 = .ok (.ifCond .ne 5, 3) := by decide +kernel
theorem dX9_delay_20 : decode cX9_delay 20 = .ok (.iconst (-1), 1) := by decide +kernel
theorem dX9_delay_21 : decode cX9_delay 21 = .ok (.ireturn, 1) := by decide +kernel
theorem dX9_delay_22 : decode cX9_delay 22 = .ok (.aload_n 0, 1) := by decide +kernel
theorem dX9_delay_23 : decode cX9_delay 23 = .ok (.getfield 12, 3) := by decide +kernel
theorem dX9_delay_26 : decode cX9_delay 26 = .ok (.getfield 92, 3) := by decide +kernel
theorem dX9_delay_29 : decode cX9_delay 29 = .ok (.iload_n 1, 1) := by decide +kernel
theorem dX9_delay_30 : decode cX9_delay 30 = .ok (.iaload, 1) := by decide +kernel
theorem dX9_delay_31 : decode cX9_delay 31 = .ok (.istore_n 3, 1) := by decide +kernel
theorem dX9_delay_32 : decode cX9_delay 32 = .ok (.aload_n 0, 1) := by decide +kernel
theorem dX9_delay_33 : decode cX9_delay 33 = .ok (.getfield 12, 3) := by decide +kernel
theorem dX9_delay_36 : decode cX9_delay 36 = .ok (.getfield 92, 3) := by decide +kernel
theorem dX9_delay_39 : decode cX9_delay 39 = .ok (.iload_n 1, 1) := by decide +kernel
theorem dX9_delay_40 : decode cX9_delay 40 = .ok (.iload_n 2, 1) := by decide +kernel
theorem dX9_delay_41 : decode cX9_delay 41 = .ok (.iastore, 1) := by decide +kernel
theorem dX9_delay_42 : decode cX9_delay 42 = .ok (.aload_n 0, 1) := by decide +kernel
theorem dX9_delay_43 : decode cX9_delay 43 = .ok (.invokevirtual 68, 3) := by decide +kernel
theorem dX9_delay_46 : decode cX9_delay 46 = .ok (.iload_n 3, 1) := by decide +kernel
theorem dX9_delay_47 : decode cX9_delay 47 = .ok (.ireturn, 1) := by decide +kernel
theorem dX9_clear_0 : decode cX9_clear 0 = .ok (.aload_n 0, 1) := by decide +kernel
theorem dX9_clear_1 : decode cX9_clear 1 = .ok (.getfield 12, 3) := by decide +kernel
theorem dX9_clear_4 : decode cX9_clear 4 = .ok (.getfield 80, 3) := by decide +kernel
theorem dX9_clear_7 : decode cX9_clear 7 = .ok (.istore_n 1, 1) := by decide +kernel
theorem dX9_clear_8 : decode cX9_clear 8 = .ok (.aload_n 0, 1) := by decide +kernel
theorem dX9_clear_9 : decode cX9_clear 9 = .ok (.getfield 12, 3) := by decide +kernel
theorem dX9_clear_12 : decode cX9_clear 12 = .ok (.iconst 0, 1) := by decide +kernel
theorem dX9_clear_13 : decode cX9_clear 13 = .ok (.putfield 80, 3) := by decide +kernel
theorem dX9_clear_16 : decode cX9_clear 16 = .ok (.aload_n 0, 1) := by decide +kernel
theorem dX9_clear_17 : decode cX9_clear 17 = .ok (.invokevirtual 68, 3) := by decide +kernel
theorem dX9_clear_20 : decode cX9_clear 20 = .ok (.iload_n 1, 1) := by decide +kernel
theorem dX9_clear_21 : decode cX9_clear 21 = .ok (.ireturn, 1) := by decide +kernel
theorem dX9_type_0 : decode cX9_type 0 = .ok (.iload_n 3, 1) := by decide +kernel
theorem dX9_type_1 : decode cX9_type 1 = .ok (.iconst 1, 1) := by decide +kernel
theorem dX9_type_2 : decode cX9_type 2 = .ok (.if_icmp .lt 17, 3) := by decide +kernel
theorem dX9_type_5 : decode cX9_type 5 = .ok (.iload_n 3, 1) := by decide +kernel
theorem dX9_type_6 : decode cX9_type 6 = .ok (.bipush 8, 2) := by decide +kernel
theorem dX9_type_8 : decode cX9_type 8 = .ok (.if_icmp .gt 11, 3) := by decide +kernel
theorem dX9_type_11 : decode cX9_type 11 = .ok (.lload_n 1, 1) := by decide +kernel
theorem dX9_type_12 : decode cX9_type 12 = .ok (.iload_n 3, 1) := by decide +kernel
theorem dX9_type_13 : decode cX9_type 13 = .ok (.invokestatic 108, 3) := by decide +kernel
theorem dX9_type_16 : decode cX9_type 16 = .ok (.ifCond .ne 5, 3) := by decide +kernel
theorem dX9_type_19 : decode cX9_type 19 = .ok (.iconst (-1), 1) := by decide +kernel
theorem dX9_type_20 : decode cX9_type 20 = .ok (.ireturn, 1) := by decide +kernel
theorem dX9_type_21 : decode cX9_type 21 = .ok (.aload_n 0, 1) := by decide +kernel
theorem dX9_type_22 : decode cX9_type 22 = .ok (.getfield 22, 3) := by decide +kernel
theorem dX9_type_25 : decode cX9_type 25 = .ok (.getfield 112, 3) := by decide +kernel
theorem dX9_type_28 : decode cX9_type 28 = .ok (.iload_n 3, 1) := by decide +kernel
theorem dX9_type_29 : decode cX9_type 29 = .ok (.iadd, 1) := by decide +kernel
theorem dX9_type_30 : decode cX9_type 30 = .ok (.bipush 80, 2) := by decide +kernel
theorem dX9_type_32 : decode cX9_type 32 = .ok (.if_icmp .le 6, 3) := by decide +kernel
theorem dX9_type_35 : decode cX9_type 35 = .ok (.bipush (-3), 2) := by decide +kernel
theorem dX9_type_37 : decode cX9_type 37 = .ok (.ireturn, 1) := by decide +kernel
theorem dX9_type_38 : decode cX9_type 38 = .ok (.aload_n 0, 1) := by decide +kernel
theorem dX9_type_39 : decode cX9_type 39 = .ok (.getfield 22, 3) := by decide +kernel
theorem dX9_type_42 : decode cX9_type 42 = .ok (.lload_n 1, 1) := by decide +kernel
theorem dX9_type_43 : decode cX9_type 43 = .ok (.iload_n 3, 1) := by decide +kernel
theorem dX9_type_44 : decode cX9_type 44 = .ok (.invokevirtual 115, 3) := by decide +kernel
theorem dX9_type_47 : decode cX9_type 47 = .ok (.aload_n 0, 1) := by decide +kernel
theorem dX9_type_48 : decode cX9_type 48 = .ok (.getfield 22, 3) := by decide +kernel
theorem dX9_type_51 : decode cX9_type 51 = .ok (.getfield 112, 3) := by decide +kernel
theorem dX9_type_54 : decode cX9_type 54 = .ok (.ireturn, 1) := by decide +kernel
theorem dX9_people_0 : decode cX9_people 0 = .ok (.aload_n 0, 1) := by decide +kernel
theorem dX9_people_1 : decode cX9_people 1 = .ok (.getfield 22, 3) := by decide +kernel
theorem dX9_people_4 : decode cX9_people 4 = .ok (.invokevirtual 119, 3) := by decide +kernel
theorem dX9_people_7 : decode cX9_people 7 = .ok (.istore_n 1, 1) := by decide +kernel
theorem dX9_people_8 : decode cX9_people 8 = .ok (.aload_n 0, 1) := by decide +kernel
theorem dX9_people_9 : decode cX9_people 9 = .ok (.getfield 22, 3) := by decide +kernel
theorem dX9_people_12 : decode cX9_people 12 = .ok (.iconst 0, 1) := by decide +kernel
theorem dX9_people_13 : decode cX9_people 13 = .ok (.putfield 112, 3) := by decide +kernel
theorem dX9_people_16 : decode cX9_people 16 = .ok (.iload_n 1, 1) := by decide +kernel
theorem dX9_people_17 : decode cX9_people 17 = .ok (.ifCond .eq 5, 3) := by decide +kernel
theorem dX9_people_20 : decode cX9_people 20 = .ok (.iload_n 1, 1) := by decide +kernel
theorem dX9_people_21 : decode cX9_people 21 = .ok (.ireturn, 1) := by decide +kernel
theorem dX9_people_22 : decode cX9_people 22 = .ok (.aload_n 0, 1) := by decide +kernel
theorem dX9_people_23 : decode cX9_people 23 = .ok (.getfield 12, 3) := by decide +kernel
theorem dX9_people_26 : decode cX9_people 26 = .ok (.getfield 80, 3) := by decide +kernel
theorem dX9_people_29 : decode cX9_people 29 = .ok (.aload_n 0, 1) := by decide +kernel
theorem dX9_people_30 : decode cX9_people 30 = .ok (.getfield 22, 3) := by decide +kernel
theorem dX9_people_33 : decode cX9_people 33 = .ok (.getfield 123, 3) := by decide +kernel
theorem dX9_people_36 : decode cX9_people 36 = .ok (.iadd, 1) := by decide +kernel
theorem dX9_people_37 : decode cX9_people 37 = .ok (.bipush 12, 2) := by decide +kernel
theorem dX9_people_39 : decode cX9_people 39 = .ok (.if_icmp .le 6, 3) := by decide +kernel
theorem dX9_people_42 : decode cX9_people 42 = .ok (.bipush (-3), 2) := by decide +kernel
theorem dX9_people_44 : decode cX9_people 44 = .ok (.ireturn, 1) := by decide +kernel
theorem dX9_people_45 : decode cX9_people 45 = .ok (.iconst 0, 1) := by decide +kernel
theorem dX9_people_46 : decode cX9_people 46 = .ok (.istore_n 2, 1) := by decide +kernel
theorem dX9_people_47 : decode cX9_people 47 = .ok (.iload_n 2, 1) := by decide +kernel
theorem dX9_people_48 : decode cX9_people 48 = .ok (.aload_n 0, 1) := by decide +kernel
theorem dX9_people_49 : decode cX9_people 49 = .ok (.getfield 22, 3) := by decide +kernel
theorem dX9_people_52 : decode cX9_people 52 = .ok (.getfield 123, 3) := by decide +kernel
theorem dX9_people_55 : decode cX9_people 55 = .ok (.if_icmp .ge 49, 3) := by decide +kernel
theorem dX9_people_58 : decode cX9_people 58 = .ok (.iload_n 2, 1) := by decide +kernel
theorem dX9_people_59 : decode cX9_people 59 = .ok (.bipush 8, 2) := by decide +kernel
theorem dX9_people_61 : decode cX9_people 61 = .ok (.if_icmp .ge 43, 3) := by decide +kernel
theorem dX9_people_64 : decode cX9_people 64 = .ok (.aload_n 0, 1) := by decide +kernel
theorem dX9_people_65 : decode cX9_people 65 = .ok (.getfield 12, 3) := by decide +kernel
theorem dX9_people_68 : decode cX9_people 68 = .ok (.aload_n 0, 1) := by decide +kernel
theorem dX9_people_69 : decode cX9_people 69 = .ok (.getfield 22, 3) := by decide +kernel
theorem dX9_people_72 : decode cX9_people 72 = .ok (.getfield 126, 3) := by decide +kernel
theorem dX9_people_75 : decode cX9_people 75 = .ok (.iload_n 2, 1) := by decide +kernel
theorem dX9_people_76 : decode cX9_people 76 = .ok (.iaload, 1) := by decide +kernel
theorem dX9_people_77 : decode cX9_people 77 = .ok (.aload_n 0, 1) := by decide +kernel
theorem dX9_people_78 : decode cX9_people 78 = .ok (.getfield 22, 3) := by decide +kernel
theorem dX9_people_81 : decode cX9_people 81 = .ok (.getfield 127, 3) := by decide +kernel
theorem dX9_people_84 : decode cX9_people 84 = .ok (.iload_n 2, 1) := by decide +kernel
theorem dX9_people_85 : decode cX9_people 85 = .ok (.iaload, 1) := by decide +kernel
theorem dX9_people_86 : decode cX9_people 86 = .ok (.aload_n 0, 1) := by decide +kernel
theorem dX9_people_87 : decode cX9_people 87 = .ok (.getfield 22, 3) := by decide +kernel
theorem dX9_people_90 : decode cX9_people 90 = .ok (.getfield 128, 3) := by decide +kernel
theorem dX9_people_93 : decode cX9_people 93 = .ok (.iload_n 2, 1) := by decide +kernel
theorem dX9_people_94 : decode cX9_people 94 = .ok (.iaload, 1) := by decide +kernel
theorem dX9_people_95 : decode cX9_people 95 = .ok (.invokevirtual 84, 3) := by decide +kernel
theorem dX9_people_98 : decode cX9_people 98 = .ok (.iinc 2 1, 3) := by decide +kernel
theorem dX9_people_101 : decode cX9_people 101 = .ok (.goto (-54), 3) := by decide +kernel
theorem dX9_people_104 : decode cX9_people 104 = .ok (.aload_n 0, 1) := by decide +kernel
theorem dX9_people_105 : decode cX9_people 105 = .ok (.invokevirtual 68, 3) := by decide +kernel
theorem dX9_people_108 : decode cX9_people 108 = .ok (.aload_n 0, 1) := by decide +kernel
theorem dX9_people_109 : decode cX9_people 109 = .ok (.getfield 22, 3) := by decide +kernel
theorem dX9_people_112 : decode cX9_people 112 = .ok (.getfield 123, 3) := by decide +kernel
theorem dX9_people_115 : decode cX9_people 115 = .ok (.ireturn, 1) := by decide +kernel
theorem dX9_fate_0 : decode cX9_fate 0 = .ok (.aload_n 0, 1) := by decide +kernel
theorem dX9_fate_1 : decode cX9_fate 1 = .ok (.getfield 12, 3) := by decide +kernel
theorem dX9_fate_4 : decode cX9_fate 4 = .ok (.iload_n 1, 1) := by decide +kernel
theorem dX9_fate_5 : decode cX9_fate 5 = .ok (.invokevirtual 88, 3) := by decide +kernel
theorem dX9_fate_8 : decode cX9_fate 8 = .ok (.ifCond .eq 11, 3) := by decide +kernel
theorem dX9_fate_11 : decode cX9_fate 11 = .ok (.iload_n 2, 1) := by decide +kernel
theorem dX9_fate_12 : decode cX9_fate 12 = .ok (.iconst 4, 1) := by decide +kernel
theorem dX9_fate_13 : decode cX9_fate 13 = .ok (.invokestatic 54, 3) := by decide +kernel
theorem dX9_fate_16 : decode cX9_fate 16 = .ok (.ifCond .ne 5, 3) := by decide +kernel
theorem dX9_fate_19 : decode cX9_fate 19 = .ok (.iconst (-1), 1) := by decide +kernel
theorem dX9_fate_20 : decode cX9_fate 20 = .ok (.ireturn, 1) := by decide +kernel
theorem dX9_fate_21 : decode cX9_fate 21 = .ok (.aload_n 0, 1) := by decide +kernel
theorem dX9_fate_22 : decode cX9_fate 22 = .ok (.invokevirtual 129, 3) := by decide +kernel
theorem dX9_fate_25 : decode cX9_fate 25 = .ok (.aload_n 0, 1) := by decide +kernel
theorem dX9_fate_26 : decode cX9_fate 26 = .ok (.getfield 35, 3) := by decide +kernel
theorem dX9_fate_29 : decode cX9_fate 29 = .ok (.getfield 132, 3) := by decide +kernel
theorem dX9_fate_32 : decode cX9_fate 32 = .ok (.astore_n 3, 1) := by decide +kernel
theorem dX9_fate_33 : decode cX9_fate 33 = .ok (.iload_n 2, 1) := by decide +kernel
theorem dX9_fate_34 : decode cX9_fate 34 = .ok (.tableswitch 82 0 2 #[26, 49, 72], 26) := by decide +kernel
theorem dX9_fate_60 : decode cX9_fate 60 = .ok (.aload_n 3, 1) := by decide +kernel
theorem dX9_fate_61 : decode cX9_fate 61 = .ok (.getfield 136, 3) := by decide +kernel
theorem dX9_fate_64 : decode cX9_fate 64 = .ok (.iload_n 1, 1) := by decide +kernel
theorem dX9_fate_65 : decode cX9_fate 65 = .ok (.iaload, 1) := by decide +kernel
theorem dX9_fate_66 : decode cX9_fate 66 = .ok (.bipush 120, 2) := by decide +kernel
theorem dX9_fate_68 : decode cX9_fate 68 = .ok (.if_icmp .ge 12, 3) := by decide +kernel
theorem dX9_fate_71 : decode cX9_fate 71 = .ok (.aload_n 3, 1) := by decide +kernel
theorem dX9_fate_72 : decode cX9_fate 72 = .ok (.getfield 136, 3) := by decide +kernel
theorem dX9_fate_75 : decode cX9_fate 75 = .ok (.iload_n 1, 1) := by decide +kernel
theorem dX9_fate_76 : decode cX9_fate 76 = .ok (.iaload, 1) := by decide +kernel
theorem dX9_fate_77 : decode cX9_fate 77 = .ok (.goto 5, 3) := by decide +kernel
theorem dX9_fate_80 : decode cX9_fate 80 = .ok (.bipush (-4), 2) := by decide +kernel
theorem dX9_fate_82 : decode cX9_fate 82 = .ok (.ireturn, 1) := by decide +kernel
theorem dX9_fate_83 : decode cX9_fate 83 = .ok (.aload_n 3, 1) := by decide +kernel
theorem dX9_fate_84 : decode cX9_fate 84 = .ok (.getfield 141, 3) := by decide +kernel
theorem dX9_fate_87 : decode cX9_fate 87 = .ok (.iload_n 1, 1) := by decide +kernel
theorem dX9_fate_88 : decode cX9_fate 88 = .ok (.iaload, 1) := by decide +kernel
theorem dX9_fate_89 : decode cX9_fate 89 = .ok (.bipush 120, 2) := by decide +kernel
theorem dX9_fate_91 : decode cX9_fate 91 = .ok (.if_icmp .ge 12, 3) := by decide +kernel
theorem dX9_fate_94 : decode cX9_fate 94 = .ok (.aload_n 3, 1) := by decide +kernel
theorem dX9_fate_95 : decode cX9_fate 95 = .ok (.getfield 141, 3) := by decide +kernel
theorem dX9_fate_98 : decode cX9_fate 98 = .ok (.iload_n 1, 1) := by decide +kernel
theorem dX9_fate_99 : decode cX9_fate 99 = .ok (.iaload, 1) := by decide +kernel
theorem dX9_fate_100 : decode cX9_fate 100 = .ok (.goto 5, 3) := by decide +kernel
theorem dX9_fate_103 : decode cX9_fate 103 = .ok (.bipush (-4), 2) := by decide +kernel
theorem dX9_fate_105 : decode cX9_fate 105 = .ok (.ireturn, 1) := by decide +kernel
theorem dX9_fate_106 : decode cX9_fate 106 = .ok (.aload_n 3, 1) := by decide +kernel
theorem dX9_fate_107 : decode cX9_fate 107 = .ok (.iload_n 1, 1) := by decide +kernel
theorem dX9_fate_108 : decode cX9_fate 108 = .ok (.aload_n 0, 1) := by decide +kernel
theorem dX9_fate_109 : decode cX9_fate 109 = .ok (.getfield 12, 3) := by decide +kernel
theorem dX9_fate_112 : decode cX9_fate 112 = .ok (.invokevirtual 144, 3) := by decide +kernel
theorem dX9_fate_115 : decode cX9_fate 115 = .ok (.ireturn, 1) := by decide +kernel
theorem dX9_fate_116 : decode cX9_fate 116 = .ok (.aload_n 3, 1) := by decide +kernel
theorem dX9_fate_117 : decode cX9_fate 117 = .ok (.getfield 148, 3) := by decide +kernel
theorem dX9_fate_120 : decode cX9_fate 120 = .ok (.iload_n 1, 1) := by decide +kernel
theorem dX9_fate_121 : decode cX9_fate 121 = .ok (.ishr, 1) := by decide +kernel
theorem dX9_fate_122 : decode cX9_fate 122 = .ok (.iconst 1, 1) := by decide +kernel
theorem dX9_fate_123 : decode cX9_fate 123 = .ok (.iand, 1) := by decide +kernel
theorem dX9_fate_124 : decode cX9_fate 124 = .ok (.ireturn, 1) := by decide +kernel
theorem dX9_at_0 : decode cX9_at 0 = .ok (.iload_n 1, 1) := by decide +kernel
theorem dX9_at_1 : decode cX9_at 1 = .ok (.bipush 120, 2) := by decide +kernel
theorem dX9_at_3 : decode cX9_at 3 = .ok (.invokestatic 54, 3) := by decide +kernel
theorem dX9_at_6 : decode cX9_at 6 = .ok (.ifCond .eq 11, 3) := by decide +kernel
theorem dX9_at_9 : decode cX9_at 9 = .ok (.iload_n 2, 1) := by decide +kernel
theorem dX9_at_10 : decode cX9_at 10 = .ok (.iconst 5, 1) := by decide +kernel
theorem dX9_at_11 : decode cX9_at 11 = .ok (.invokestatic 54, 3) := by decide +kernel
theorem dX9_at_14 : decode cX9_at 14 = .ok (.ifCond .ne 5, 3) := by decide +kernel
theorem dX9_at_17 : decode cX9_at 17 = .ok (.iconst (-1), 1) := by decide +kernel
theorem dX9_at_18 : decode cX9_at 18 = .ok (.ireturn, 1) := by decide +kernel
theorem dX9_at_19 : decode cX9_at 19 = .ok (.aload_n 0, 1) := by decide +kernel
theorem dX9_at_20 : decode cX9_at 20 = .ok (.invokevirtual 129, 3) := by decide +kernel
theorem dX9_at_23 : decode cX9_at 23 = .ok (.iload_n 2, 1) := by decide +kernel
theorem dX9_at_24 : decode cX9_at 24 = .ok (.tableswitch 71 0 3 #[32, 42, 52, 61], 32) := by decide +kernel
theorem dX9_at_56 : decode cX9_at 56 = .ok (.aload_n 0, 1) := by decide +kernel
theorem dX9_at_57 : decode cX9_at 57 = .ok (.getfield 42, 3) := by decide +kernel
theorem dX9_at_60 : decode cX9_at 60 = .ok (.getfield 151, 3) := by decide +kernel
theorem dX9_at_63 : decode cX9_at 63 = .ok (.iload_n 1, 1) := by decide +kernel
theorem dX9_at_64 : decode cX9_at 64 = .ok (.iaload, 1) := by decide +kernel
theorem dX9_at_65 : decode cX9_at 65 = .ok (.ireturn, 1) := by decide +kernel
theorem dX9_at_66 : decode cX9_at 66 = .ok (.aload_n 0, 1) := by decide +kernel
theorem dX9_at_67 : decode cX9_at 67 = .ok (.getfield 42, 3) := by decide +kernel
theorem dX9_at_70 : decode cX9_at 70 = .ok (.getfield 154, 3) := by decide +kernel
theorem dX9_at_73 : decode cX9_at 73 = .ok (.iload_n 1, 1) := by decide +kernel
theorem dX9_at_74 : decode cX9_at 74 = .ok (.iaload, 1) := by decide +kernel
theorem dX9_at_75 : decode cX9_at 75 = .ok (.ireturn, 1) := by decide +kernel
theorem dX9_at_76 : decode cX9_at 76 = .ok (.aload_n 0, 1) := by decide +kernel
theorem dX9_at_77 : decode cX9_at 77 = .ok (.getfield 42, 3) := by decide +kernel
theorem dX9_at_80 : decode cX9_at 80 = .ok (.iload_n 1, 1) := by decide +kernel
theorem dX9_at_81 : decode cX9_at 81 = .ok (.invokevirtual 157, 3) := by decide +kernel
theorem dX9_at_84 : decode cX9_at 84 = .ok (.ireturn, 1) := by decide +kernel
theorem dX9_at_85 : decode cX9_at 85 = .ok (.aload_n 0, 1) := by decide +kernel
theorem dX9_at_86 : decode cX9_at 86 = .ok (.getfield 42, 3) := by decide +kernel
theorem dX9_at_89 : decode cX9_at 89 = .ok (.getfield 160, 3) := by decide +kernel
theorem dX9_at_92 : decode cX9_at 92 = .ok (.iload_n 1, 1) := by decide +kernel
theorem dX9_at_93 : decode cX9_at 93 = .ok (.iaload, 1) := by decide +kernel
theorem dX9_at_94 : decode cX9_at 94 = .ok (.ireturn, 1) := by decide +kernel
theorem dX9_at_95 : decode cX9_at 95 = .ok (.aload_n 0, 1) := by decide +kernel
theorem dX9_at_96 : decode cX9_at 96 = .ok (.getfield 42, 3) := by decide +kernel
theorem dX9_at_99 : decode cX9_at 99 = .ok (.getfield 163, 3) := by decide +kernel
theorem dX9_at_102 : decode cX9_at 102 = .ok (.iload_n 1, 1) := by decide +kernel
theorem dX9_at_103 : decode cX9_at 103 = .ok (.iaload, 1) := by decide +kernel
theorem dX9_at_104 : decode cX9_at 104 = .ok (.ireturn, 1) := by decide +kernel
theorem dX9_within_0 : decode cX9_within 0 = .ok (.iload_n 1, 1) := by decide +kernel
theorem dX9_within_1 : decode cX9_within 1 = .ok (.bipush 120, 2) := by decide +kernel
theorem dX9_within_3 : decode cX9_within 3 = .ok (.invokestatic 54, 3) := by decide +kernel
theorem dX9_within_6 : decode cX9_within 6 = .ok (.ifCond .eq 19, 3) := by decide +kernel
theorem dX9_within_9 : decode cX9_within 9 = .ok (.iload_n 2, 1) := by decide +kernel
theorem dX9_within_10 : decode cX9_within 10 = .ok (.aload_n 0, 1) := by decide +kernel
theorem dX9_within_11 : decode cX9_within 11 = .ok (.getfield 12, 3) := by decide +kernel
theorem dX9_within_14 : decode cX9_within 14 = .ok (.getfield 65, 3) := by decide +kernel
theorem dX9_within_17 : decode cX9_within 17 = .ok (.iconst 0, 1) := by decide +kernel
theorem dX9_within_18 : decode cX9_within 18 = .ok (.iaload, 1) := by decide +kernel
theorem dX9_within_19 : decode cX9_within 19 = .ok (.invokestatic 54, 3) := by decide +kernel
theorem dX9_within_22 : decode cX9_within 22 = .ok (.ifCond .ne 5, 3) := by decide +kernel
theorem dX9_within_25 : decode cX9_within 25 = .ok (.iconst (-1), 1) := by decide +kernel
theorem dX9_within_26 : decode cX9_within 26 = .ok (.ireturn, 1) := by decide +kernel
theorem dX9_within_27 : decode cX9_within 27 = .ok (.aload_n 0, 1) := by decide +kernel
theorem dX9_within_28 : decode cX9_within 28 = .ok (.invokevirtual 129, 3) := by decide +kernel
theorem dX9_within_31 : decode cX9_within 31 = .ok (.aload_n 0, 1) := by decide +kernel
theorem dX9_within_32 : decode cX9_within 32 = .ok (.getfield 42, 3) := by decide +kernel
theorem dX9_within_35 : decode cX9_within 35 = .ok (.getfield 166, 3) := by decide +kernel
theorem dX9_within_38 : decode cX9_within 38 = .ok (.iload_n 1, 1) := by decide +kernel
theorem dX9_within_39 : decode cX9_within 39 = .ok (.iconst 4, 1) := by decide +kernel
theorem dX9_within_40 : decode cX9_within 40 = .ok (.imul, 1) := by decide +kernel
theorem dX9_within_41 : decode cX9_within 41 = .ok (.iload_n 2, 1) := by decide +kernel
theorem dX9_within_42 : decode cX9_within 42 = .ok (.iadd, 1) := by decide +kernel
theorem dX9_within_43 : decode cX9_within 43 = .ok (.iaload, 1) := by decide +kernel
theorem dX9_within_44 : decode cX9_within 44 = .ok (.ireturn, 1) := by decide +kernel
theorem dX9_all_0 : decode cX9_all 0 = .ok (.iload_n 1, 1) := by decide +kernel
theorem dX9_all_1 : decode cX9_all 1 = .ok (.bipush 7, 2) := by decide +kernel
theorem dX9_all_3 : decode cX9_all 3 = .ok (.invokestatic 54, 3) := by decide +kernel
theorem dX9_all_6 : decode cX9_all 6 = .ok (.ifCond .ne 5, 3) := by decide +kernel
theorem dX9_all_9 : decode cX9_all 9 = .ok (.iconst (-1), 1) := by decide +kernel
theorem dX9_all_10 : decode cX9_all 10 = .ok (.ireturn, 1) := by decide +kernel
theorem dX9_all_11 : decode cX9_all 11 = .ok (.aload_n 0, 1) := by decide +kernel
theorem dX9_all_12 : decode cX9_all 12 = .ok (.invokevirtual 129, 3) := by decide +kernel
theorem dX9_all_15 : decode cX9_all 15 = .ok (.iload_n 1, 1) := by decide +kernel
theorem dX9_all_16 : decode cX9_all 16 = .ok (.tableswitch 123 0 5 #[40, 54, 72, 87, 98, 109], 40) := by decide +kernel
theorem dX9_all_56 : decode cX9_all 56 = .ok (.aload_n 0, 1) := by decide +kernel
theorem dX9_all_57 : decode cX9_all 57 = .ok (.getfield 35, 3) := by decide +kernel
theorem dX9_all_60 : decode cX9_all 60 = .ok (.getfield 132, 3) := by decide +kernel
theorem dX9_all_63 : decode cX9_all 63 = .ok (.getfield 169, 3) := by decide +kernel
theorem dX9_all_66 : decode cX9_all 66 = .ok (.invokestatic 172, 3) := by decide +kernel
theorem dX9_all_69 : decode cX9_all 69 = .ok (.ireturn, 1) := by decide +kernel
theorem dX9_all_70 : decode cX9_all 70 = .ok (.aload_n 0, 1) := by decide +kernel
theorem dX9_all_71 : decode cX9_all 71 = .ok (.getfield 35, 3) := by decide +kernel
theorem dX9_all_74 : decode cX9_all 74 = .ok (.getfield 132, 3) := by decide +kernel
theorem dX9_all_77 : decode cX9_all 77 = .ok (.aload_n 0, 1) := by decide +kernel
theorem dX9_all_78 : decode cX9_all 78 = .ok (.getfield 12, 3) := by decide +kernel
theorem dX9_all_81 : decode cX9_all 81 = .ok (.getfield 80, 3) := by decide +kernel
theorem dX9_all_84 : decode cX9_all 84 = .ok (.invokevirtual 177, 3) := by decide +kernel
theorem dX9_all_87 : decode cX9_all 87 = .ok (.ireturn, 1) := by decide +kernel
theorem dX9_all_88 : decode cX9_all 88 = .ok (.aload_n 0, 1) := by decide +kernel
theorem dX9_all_89 : decode cX9_all 89 = .ok (.getfield 35, 3) := by decide +kernel
theorem dX9_all_92 : decode cX9_all 92 = .ok (.getfield 132, 3) := by decide +kernel
theorem dX9_all_95 : decode cX9_all 95 = .ok (.aload_n 0, 1) := by decide +kernel
theorem dX9_all_96 : decode cX9_all 96 = .ok (.getfield 12, 3) := by decide +kernel
theorem dX9_all_99 : decode cX9_all 99 = .ok (.invokevirtual 180, 3) := by decide +kernel
theorem dX9_all_102 : decode cX9_all 102 = .ok (.ireturn, 1) := by decide +kernel
theorem dX9_all_103 : decode cX9_all 103 = .ok (.aload_n 0, 1) := by decide +kernel
theorem dX9_all_104 : decode cX9_all 104 = .ok (.getfield 35, 3) := by decide +kernel
theorem dX9_all_107 : decode cX9_all 107 = .ok (.getfield 184, 3) := by decide +kernel
theorem dX9_all_110 : decode cX9_all 110 = .ok (.getfield 188, 3) := by decide +kernel
theorem dX9_all_113 : decode cX9_all 113 = .ok (.ireturn, 1) := by decide +kernel
theorem dX9_all_114 : decode cX9_all 114 = .ok (.aload_n 0, 1) := by decide +kernel
theorem dX9_all_115 : decode cX9_all 115 = .ok (.getfield 35, 3) := by decide +kernel
theorem dX9_all_118 : decode cX9_all 118 = .ok (.getfield 184, 3) := by decide +kernel
theorem dX9_all_121 : decode cX9_all 121 = .ok (.getfield 191, 3) := by decide +kernel
theorem dX9_all_124 : decode cX9_all 124 = .ok (.ireturn, 1) := by decide +kernel
theorem dX9_all_125 : decode cX9_all 125 = .ok (.aload_n 0, 1) := by decide +kernel
theorem dX9_all_126 : decode cX9_all 126 = .ok (.getfield 35, 3) := by decide +kernel
theorem dX9_all_129 : decode cX9_all 129 = .ok (.getfield 132, 3) := by decide +kernel
theorem dX9_all_132 : decode cX9_all 132 = .ok (.getfield 148, 3) := by decide +kernel
theorem dX9_all_135 : decode cX9_all 135 = .ok (.invokestatic 172, 3) := by decide +kernel
theorem dX9_all_138 : decode cX9_all 138 = .ok (.ireturn, 1) := by decide +kernel
theorem dX9_all_139 : decode cX9_all 139 = .ok (.aload_n 0, 1) := by decide +kernel
theorem dX9_all_140 : decode cX9_all 140 = .ok (.getfield 35, 3) := by decide +kernel
theorem dX9_all_143 : decode cX9_all 143 = .ok (.getfield 194, 3) := by decide +kernel
theorem dX9_all_146 : decode cX9_all 146 = .ok (.ireturn, 1) := by decide +kernel
theorem dX9_count_0 : decode cX9_count 0 = .ok (.iload_n 1, 1) := by decide +kernel
theorem dX9_count_1 : decode cX9_count 1 = .ok (.lookupswitch 43 #[(0, 27), (1, 35)], 27) := by decide +kernel
theorem dX9_count_28 : decode cX9_count 28 = .ok (.aload_n 0, 1) := by decide +kernel
theorem dX9_count_29 : decode cX9_count 29 = .ok (.getfield 12, 3) := by decide +kernel
theorem dX9_count_32 : decode cX9_count 32 = .ok (.getfield 80, 3) := by decide +kernel
theorem dX9_count_35 : decode cX9_count 35 = .ok (.ireturn, 1) := by decide +kernel
theorem dX9_count_36 : decode cX9_count 36 = .ok (.aload_n 0, 1) := by decide +kernel
theorem dX9_count_37 : decode cX9_count 37 = .ok (.getfield 12, 3) := by decide +kernel
theorem dX9_count_40 : decode cX9_count 40 = .ok (.invokevirtual 197, 3) := by decide +kernel
theorem dX9_count_43 : decode cX9_count 43 = .ok (.ireturn, 1) := by decide +kernel
theorem dX9_count_44 : decode cX9_count 44 = .ok (.iconst (-1), 1) := by decide +kernel
theorem dX9_count_45 : decode cX9_count 45 = .ok (.ireturn, 1) := by decide +kernel
theorem dX9_shared_0 : decode cX9_shared 0 = .ok (.aload_n 0, 1) := by decide +kernel
theorem dX9_shared_1 : decode cX9_shared 1 = .ok (.getfield 12, 3) := by decide +kernel
theorem dX9_shared_4 : decode cX9_shared 4 = .ok (.iload_n 1, 1) := by decide +kernel
theorem dX9_shared_5 : decode cX9_shared 5 = .ok (.invokevirtual 88, 3) := by decide +kernel
theorem dX9_shared_8 : decode cX9_shared 8 = .ok (.ifCond .eq 19, 3) := by decide +kernel
theorem dX9_shared_11 : decode cX9_shared 11 = .ok (.aload_n 0, 1) := by decide +kernel
theorem dX9_shared_12 : decode cX9_shared 12 = .ok (.getfield 12, 3) := by decide +kernel
theorem dX9_shared_15 : decode cX9_shared 15 = .ok (.iload_n 2, 1) := by decide +kernel
theorem dX9_shared_16 : decode cX9_shared 16 = .ok (.invokevirtual 88, 3) := by decide +kernel
theorem dX9_shared_19 : decode cX9_shared 19 = .ok (.ifCond .eq 8, 3) := by decide +kernel
theorem dX9_shared_22 : decode cX9_shared 22 = .ok (.iload_n 1, 1) := by decide +kernel
theorem dX9_shared_23 : decode cX9_shared 23 = .ok (.iload_n 2, 1) := by decide +kernel
theorem dX9_shared_24 : decode cX9_shared 24 = .ok (.if_icmp .ne 5, 3) := by decide +kernel
theorem dX9_shared_27 : decode cX9_shared 27 = .ok (.iconst (-1), 1) := by decide +kernel
theorem dX9_shared_28 : decode cX9_shared 28 = .ok (.ireturn, 1) := by decide +kernel
theorem dX9_shared_29 : decode cX9_shared 29 = .ok (.aload_n 0, 1) := by decide +kernel
theorem dX9_shared_30 : decode cX9_shared 30 = .ok (.invokevirtual 129, 3) := by decide +kernel
theorem dX9_shared_33 : decode cX9_shared 33 = .ok (.aload_n 0, 1) := by decide +kernel
theorem dX9_shared_34 : decode cX9_shared 34 = .ok (.getfield 35, 3) := by decide +kernel
theorem dX9_shared_37 : decode cX9_shared 37 = .ok (.getfield 132, 3) := by decide +kernel
theorem dX9_shared_40 : decode cX9_shared 40 = .ok (.getfield 200, 3) := by decide +kernel
theorem dX9_shared_43 : decode cX9_shared 43 = .ok (.iload_n 1, 1) := by decide +kernel
theorem dX9_shared_44 : decode cX9_shared 44 = .ok (.iaload, 1) := by decide +kernel
theorem dX9_shared_45 : decode cX9_shared 45 = .ok (.iload_n 2, 1) := by decide +kernel
theorem dX9_shared_46 : decode cX9_shared 46 = .ok (.ishr, 1) := by decide +kernel
theorem dX9_shared_47 : decode cX9_shared 47 = .ok (.iconst 1, 1) := by decide +kernel
theorem dX9_shared_48 : decode cX9_shared 48 = .ok (.iand, 1) := by decide +kernel
theorem dX9_shared_49 : decode cX9_shared 49 = .ok (.ireturn, 1) := by decide +kernel
theorem dX9_motor_0 : decode cX9_motor 0 = .ok (.iload_n 1, 1) := by decide +kernel
theorem dX9_motor_1 : decode cX9_motor 1 = .ok (.bipush 120, 2) := by decide +kernel
theorem dX9_motor_3 : decode cX9_motor 3 = .ok (.invokestatic 54, 3) := by decide +kernel
theorem dX9_motor_6 : decode cX9_motor 6 = .ok (.ifCond .ne 5, 3) := by decide +kernel
theorem dX9_motor_9 : decode cX9_motor 9 = .ok (.iconst (-1), 1) := by decide +kernel
theorem dX9_motor_10 : decode cX9_motor 10 = .ok (.ireturn, 1) := by decide +kernel
theorem dX9_motor_11 : decode cX9_motor 11 = .ok (.aload_n 0, 1) := by decide +kernel
theorem dX9_motor_12 : decode cX9_motor 12 = .ok (.getfield 49, 3) := by decide +kernel
theorem dX9_motor_15 : decode cX9_motor 15 = .ok (.aload_n 0, 1) := by decide +kernel
theorem dX9_motor_16 : decode cX9_motor 16 = .ok (.getfield 12, 3) := by decide +kernel
theorem dX9_motor_19 : decode cX9_motor 19 = .ok (.iload_n 1, 1) := by decide +kernel
theorem dX9_motor_20 : decode cX9_motor 20 = .ok (.invokevirtual 203, 3) := by decide +kernel
theorem dX9_motor_23 : decode cX9_motor 23 = .ok (.ireturn, 1) := by decide +kernel
theorem dX9_warmest_0 : decode cX9_warmest 0 = .ok (.iload_n 1, 1) := by decide +kernel
theorem dX9_warmest_1 : decode cX9_warmest 1 = .ok (.bipush 120, 2) := by decide +kernel
theorem dX9_warmest_3 : decode cX9_warmest 3 = .ok (.invokestatic 54, 3) := by decide +kernel
theorem dX9_warmest_6 : decode cX9_warmest 6 = .ok (.ifCond .eq 11, 3) := by decide +kernel
theorem dX9_warmest_9 : decode cX9_warmest 9 = .ok (.iload_n 2, 1) := by decide +kernel
theorem dX9_warmest_10 : decode cX9_warmest 10 = .ok (.iconst 4, 1) := by decide +kernel
theorem dX9_warmest_11 : decode cX9_warmest 11 = .ok (.invokestatic 54, 3) := by decide +kernel
theorem dX9_warmest_14 : decode cX9_warmest 14 = .ok (.ifCond .ne 5, 3) := by decide +kernel
theorem dX9_warmest_17 : decode cX9_warmest 17 = .ok (.iconst (-1), 1) := by decide +kernel
theorem dX9_warmest_18 : decode cX9_warmest 18 = .ok (.ireturn, 1) := by decide +kernel
theorem dX9_warmest_19 : decode cX9_warmest 19 = .ok (.aload_n 0, 1) := by decide +kernel
theorem dX9_warmest_20 : decode cX9_warmest 20 = .ok (.getfield 49, 3) := by decide +kernel
theorem dX9_warmest_23 : decode cX9_warmest 23 = .ok (.aload_n 0, 1) := by decide +kernel
theorem dX9_warmest_24 : decode cX9_warmest 24 = .ok (.getfield 12, 3) := by decide +kernel
theorem dX9_warmest_27 : decode cX9_warmest 27 = .ok (.invokevirtual 207, 3) := by decide +kernel
theorem dX9_warmest_30 : decode cX9_warmest 30 = .ok (.aload_n 0, 1) := by decide +kernel
theorem dX9_warmest_31 : decode cX9_warmest 31 = .ok (.getfield 49, 3) := by decide +kernel
theorem dX9_warmest_34 : decode cX9_warmest 34 = .ok (.iload_n 1, 1) := by decide +kernel
theorem dX9_warmest_35 : decode cX9_warmest 35 = .ok (.invokevirtual 211, 3) := by decide +kernel
theorem dX9_warmest_38 : decode cX9_warmest 38 = .ok (.istore_n 3, 1) := by decide +kernel
theorem dX9_warmest_39 : decode cX9_warmest 39 = .ok (.iload_n 3, 1) := by decide +kernel
theorem dX9_warmest_40 : decode cX9_warmest 40 = .ok (.ifCond .ge 6, 3) := by decide +kernel
theorem dX9_warmest_43 : decode cX9_warmest 43 = .ok (.bipush (-4), 2) := by decide +kernel
theorem dX9_warmest_45 : decode cX9_warmest 45 = .ok (.ireturn, 1) := by decide +kernel
theorem dX9_warmest_46 : decode cX9_warmest 46 = .ok (.iload_n 2, 1) := by decide +kernel
theorem dX9_warmest_47 : decode cX9_warmest 47 = .ok (.tableswitch 40 0 2 #[25, 30, 35], 25) := by decide +kernel
theorem dX9_warmest_72 : decode cX9_warmest 72 = .ok (.iload_n 3, 1) := by decide +kernel
theorem dX9_warmest_73 : decode cX9_warmest 73 = .ok (.invokestatic 214, 3) := by decide +kernel
theorem dX9_warmest_76 : decode cX9_warmest 76 = .ok (.ireturn, 1) := by decide +kernel
theorem dX9_warmest_77 : decode cX9_warmest 77 = .ok (.iload_n 3, 1) := by decide +kernel
theorem dX9_warmest_78 : decode cX9_warmest 78 = .ok (.invokestatic 217, 3) := by decide +kernel
theorem dX9_warmest_81 : decode cX9_warmest 81 = .ok (.ireturn, 1) := by decide +kernel
theorem dX9_warmest_82 : decode cX9_warmest 82 = .ok (.iload_n 3, 1) := by decide +kernel
theorem dX9_warmest_83 : decode cX9_warmest 83 = .ok (.invokestatic 220, 3) := by decide +kernel
theorem dX9_warmest_86 : decode cX9_warmest 86 = .ok (.ireturn, 1) := by decide +kernel
theorem dX9_warmest_87 : decode cX9_warmest 87 = .ok (.aload_n 0, 1) := by decide +kernel
theorem dX9_warmest_88 : decode cX9_warmest 88 = .ok (.getfield 49, 3) := by decide +kernel
theorem dX9_warmest_91 : decode cX9_warmest 91 = .ok (.iload_n 3, 1) := by decide +kernel
theorem dX9_warmest_92 : decode cX9_warmest 92 = .ok (.invokevirtual 223, 3) := by decide +kernel
theorem dX9_warmest_95 : decode cX9_warmest 95 = .ok (.ireturn, 1) := by decide +kernel
theorem dX9_orders_0 : decode cX9_orders 0 = .ok (.iload_n 1, 1) := by decide +kernel
theorem dX9_orders_1 : decode cX9_orders 1 = .ok (.ifCond .le 14, 3) := by decide +kernel
theorem dX9_orders_4 : decode cX9_orders 4 = .ok (.iload_n 1, 1) := by decide +kernel
theorem dX9_orders_5 : decode cX9_orders 5 = .ok (.aload_n 0, 1) := by decide +kernel
theorem dX9_orders_6 : decode cX9_orders 6 = .ok (.getfield 12, 3) := by decide +kernel
theorem dX9_orders_9 : decode cX9_orders 9 = .ok (.invokevirtual 226, 3) := by decide +kernel
theorem dX9_orders_12 : decode cX9_orders 12 = .ok (.if_icmp .le 5, 3) := by decide +kernel
theorem dX9_orders_15 : decode cX9_orders 15 = .ok (.iconst (-1), 1) := by decide +kernel
theorem dX9_orders_16 : decode cX9_orders 16 = .ok (.ireturn, 1) := by decide +kernel
theorem dX9_orders_17 : decode cX9_orders 17 = .ok (.iload_n 1, 1) := by decide +kernel
theorem dX9_orders_18 : decode cX9_orders 18 = .ok (.invokestatic 172, 3) := by decide +kernel
theorem dX9_orders_21 : decode cX9_orders 21 = .ok (.istore_n 3, 1) := by decide +kernel
theorem dX9_orders_22 : decode cX9_orders 22 = .ok (.iload_n 3, 1) := by decide +kernel
theorem dX9_orders_23 : decode cX9_orders 23 = .ok (.bipush 6, 2) := by decide +kernel
theorem dX9_orders_25 : decode cX9_orders 25 = .ok (.if_icmp .gt 14, 3) := by decide +kernel
theorem dX9_orders_28 : decode cX9_orders 28 = .ok (.iload_n 2, 1) := by decide +kernel
theorem dX9_orders_29 : decode cX9_orders 29 = .ok (.bipush (-2), 2) := by decide +kernel
theorem dX9_orders_31 : decode cX9_orders 31 = .ok (.if_icmp .lt 8, 3) := by decide +kernel
theorem dX9_orders_34 : decode cX9_orders 34 = .ok (.iload_n 2, 1) := by decide +kernel
theorem dX9_orders_35 : decode cX9_orders 35 = .ok (.iload_n 3, 1) := by decide +kernel
theorem dX9_orders_36 : decode cX9_orders 36 = .ok (.if_icmp .lt 5, 3) := by decide +kernel
theorem dX9_orders_39 : decode cX9_orders 39 = .ok (.iconst (-1), 1) := by decide +kernel
theorem dX9_orders_40 : decode cX9_orders 40 = .ok (.ireturn, 1) := by decide +kernel
theorem dX9_orders_41 : decode cX9_orders 41 = .ok (.aload_n 0, 1) := by decide +kernel
theorem dX9_orders_42 : decode cX9_orders 42 = .ok (.getfield 49, 3) := by decide +kernel
theorem dX9_orders_45 : decode cX9_orders 45 = .ok (.aload_n 0, 1) := by decide +kernel
theorem dX9_orders_46 : decode cX9_orders 46 = .ok (.getfield 12, 3) := by decide +kernel
theorem dX9_orders_49 : decode cX9_orders 49 = .ok (.iload_n 1, 1) := by decide +kernel
theorem dX9_orders_50 : decode cX9_orders 50 = .ok (.invokevirtual 229, 3) := by decide +kernel
theorem dX9_orders_53 : decode cX9_orders 53 = .ok (.iload_n 2, 1) := by decide +kernel
theorem dX9_orders_54 : decode cX9_orders 54 = .ok (.iconst (-1), 1) := by decide +kernel
theorem dX9_orders_55 : decode cX9_orders 55 = .ok (.if_icmp .ne 14, 3) := by decide +kernel
theorem dX9_orders_58 : decode cX9_orders 58 = .ok (.aload_n 0, 1) := by decide +kernel
theorem dX9_orders_59 : decode cX9_orders 59 = .ok (.getfield 49, 3) := by decide +kernel
theorem dX9_orders_62 : decode cX9_orders 62 = .ok (.getfield 233, 3) := by decide +kernel
theorem dX9_orders_65 : decode cX9_orders 65 = .ok (.getfield 237, 3) := by decide +kernel
theorem dX9_orders_68 : decode cX9_orders 68 = .ok (.ireturn, 1) := by decide +kernel
theorem dX9_orders_69 : decode cX9_orders 69 = .ok (.iload_n 2, 1) := by decide +kernel
theorem dX9_orders_70 : decode cX9_orders 70 = .ok (.bipush (-2), 2) := by decide +kernel
theorem dX9_orders_72 : decode cX9_orders 72 = .ok (.if_icmp .ne 14, 3) := by decide +kernel
theorem dX9_orders_75 : decode cX9_orders 75 = .ok (.aload_n 0, 1) := by decide +kernel
theorem dX9_orders_76 : decode cX9_orders 76 = .ok (.getfield 49, 3) := by decide +kernel
theorem dX9_orders_79 : decode cX9_orders 79 = .ok (.getfield 233, 3) := by decide +kernel
theorem dX9_orders_82 : decode cX9_orders 82 = .ok (.getfield 242, 3) := by decide +kernel
theorem dX9_orders_85 : decode cX9_orders 85 = .ok (.ireturn, 1) := by decide +kernel
theorem dX9_orders_86 : decode cX9_orders 86 = .ok (.aload_n 0, 1) := by decide +kernel
theorem dX9_orders_87 : decode cX9_orders 87 = .ok (.getfield 49, 3) := by decide +kernel
theorem dX9_orders_90 : decode cX9_orders 90 = .ok (.getfield 233, 3) := by decide +kernel
theorem dX9_orders_93 : decode cX9_orders 93 = .ok (.getfield 245, 3) := by decide +kernel
theorem dX9_orders_96 : decode cX9_orders 96 = .ok (.iload_n 2, 1) := by decide +kernel
theorem dX9_orders_97 : decode cX9_orders 97 = .ok (.iaload, 1) := by decide +kernel
theorem dX9_orders_98 : decode cX9_orders 98 = .ok (.ireturn, 1) := by decide +kernel
theorem dX9_times_0 : decode cX9_times 0 = .ok (.iload_n 1, 1) := by decide +kernel
theorem dX9_times_1 : decode cX9_times 1 = .ok (.iconst 4, 1) := by decide +kernel
theorem dX9_times_2 : decode cX9_times 2 = .ok (.invokestatic 54, 3) := by decide +kernel
theorem dX9_times_5 : decode cX9_times 5 = .ok (.ifCond .eq 33, 3) := by decide +kernel
theorem dX9_times_8 : decode cX9_times 8 = .ok (.iload_n 2, 1) := by decide +kernel
theorem dX9_times_9 : decode cX9_times 9 = .ok (.iconst 3, 1) := by decide +kernel
theorem dX9_times_10 : decode cX9_times 10 = .ok (.invokestatic 54, 3) := by decide +kernel
theorem dX9_times_13 : decode cX9_times 13 = .ok (.ifCond .eq 25, 3) := by decide +kernel
theorem dX9_times_16 : decode cX9_times 16 = .ok (.iload 4, 2) := by decide +kernel
theorem dX9_times_18 : decode cX9_times 18 = .ok (.iconst 1, 1) := by decide +kernel
theorem dX9_times_19 : decode cX9_times 19 = .ok (.if_icmp .lt 19, 3) := by decide +kernel
theorem dX9_times_22 : decode cX9_times 22 = .ok (.iload 4, 2) := by decide +kernel
theorem dX9_times_24 : decode cX9_times 24 = .ok (.bipush 8, 2) := by decide +kernel
theorem dX9_times_26 : decode cX9_times 26 = .ok (.if_icmp .gt 12, 3) := by decide +kernel
theorem dX9_times_29 : decode cX9_times 29 = .ok (.iload 5, 2) := by decide +kernel
theorem dX9_times_31 : decode cX9_times 31 = .ok (.iconst 3, 1) := by decide +kernel
theorem dX9_times_32 : decode cX9_times 32 = .ok (.invokestatic 54, 3) := by decide +kernel
theorem dX9_times_35 : decode cX9_times 35 = .ok (.ifCond .ne 5, 3) := by decide +kernel
theorem dX9_times_38 : decode cX9_times 38 = .ok (.iconst (-1), 1) := by decide +kernel
theorem dX9_times_39 : decode cX9_times 39 = .ok (.ireturn, 1) := by decide +kernel
theorem dX9_times_40 : decode cX9_times 40 = .ok (.aload_n 0, 1) := by decide +kernel
theorem dX9_times_41 : decode cX9_times 41 = .ok (.getfield 28, 3) := by decide +kernel
theorem dX9_times_44 : decode cX9_times 44 = .ok (.iload_n 1, 1) := by decide +kernel
theorem dX9_times_45 : decode cX9_times 45 = .ok (.aaload, 1) := by decide +kernel
theorem dX9_times_46 : decode cX9_times 46 = .ok (.astore 6, 2) := by decide +kernel
theorem dX9_times_48 : decode cX9_times 48 = .ok (.aload 6, 2) := by decide +kernel
theorem dX9_times_50 : decode cX9_times 50 = .ok (.iload_n 2, 1) := by decide +kernel
theorem dX9_times_51 : decode cX9_times 51 = .ok (.iload_n 3, 1) := by decide +kernel
theorem dX9_times_52 : decode cX9_times 52 = .ok (.iconst 2, 1) := by decide +kernel
theorem dX9_times_53 : decode cX9_times 53 = .ok (.iload 4, 2) := by decide +kernel
theorem dX9_times_55 : decode cX9_times 55 = .ok (.imul, 1) := by decide +kernel
theorem dX9_times_56 : decode cX9_times 56 = .ok (.invokevirtual 248, 3) := by decide +kernel
theorem dX9_times_59 : decode cX9_times 59 = .ok (.istore 7, 2) := by decide +kernel
theorem dX9_times_61 : decode cX9_times 61 = .ok (.iload 7, 2) := by decide +kernel
theorem dX9_times_63 : decode cX9_times 63 = .ok (.ifCond .eq 6, 3) := by decide +kernel
theorem dX9_times_66 : decode cX9_times 66 = .ok (.iload 7, 2) := by decide +kernel
theorem dX9_times_68 : decode cX9_times 68 = .ok (.ireturn, 1) := by decide +kernel
theorem dX9_times_69 : decode cX9_times 69 = .ok (.iload_n 3, 1) := by decide +kernel
theorem dX9_times_70 : decode cX9_times 70 = .ok (.istore 8, 2) := by decide +kernel
theorem dX9_times_72 : decode cX9_times 72 = .ok (.iload 8, 2) := by decide +kernel
theorem dX9_times_74 : decode cX9_times 74 = .ok (.iload_n 3, 1) := by decide +kernel
theorem dX9_times_75 : decode cX9_times 75 = .ok (.iconst 2, 1) := by decide +kernel
theorem dX9_times_76 : decode cX9_times 76 = .ok (.iload 4, 2) := by decide +kernel
theorem dX9_times_78 : decode cX9_times 78 = .ok (.imul, 1) := by decide +kernel
theorem dX9_times_79 : decode cX9_times 79 = .ok (.iadd, 1) := by decide +kernel
theorem dX9_times_80 : decode cX9_times 80 = .ok (.if_icmp .ge 46, 3) := by decide +kernel
theorem dX9_times_83 : decode cX9_times 83 = .ok (.aload_n 0, 1) := by decide +kernel
theorem dX9_times_84 : decode cX9_times 84 = .ok (.getfield 12, 3) := by decide +kernel
theorem dX9_times_87 : decode cX9_times 87 = .ok (.aload 6, 2) := by decide +kernel
theorem dX9_times_89 : decode cX9_times 89 = .ok (.iload 8, 2) := by decide +kernel
theorem dX9_times_91 : decode cX9_times 91 = .ok (.invokevirtual 252, 3) := by decide +kernel
theorem dX9_times_94 : decode cX9_times 94 = .ok (.invokevirtual 88, 3) := by decide +kernel
theorem dX9_times_97 : decode cX9_times 97 = .ok (.ifCond .eq 20, 3) := by decide +kernel
theorem dX9_times_100 : decode cX9_times 100 = .ok (.aload 6, 2) := by decide +kernel
theorem dX9_times_102 : decode cX9_times 102 = .ok (.iload 8, 2) := by decide +kernel
theorem dX9_times_104 : decode cX9_times 104 = .ok (.iconst 1, 1) := by decide +kernel
theorem dX9_times_105 : decode cX9_times 105 = .ok (.iadd, 1) := by decide +kernel
theorem dX9_times_106 : decode cX9_times 106 = .ok (.invokevirtual 252, 3) := by decide +kernel
theorem dX9_times_109 : decode cX9_times 109 = .ok (.bipush 121, 2) := by decide +kernel
theorem dX9_times_111 : decode cX9_times 111 = .ok (.invokestatic 54, 3) := by decide +kernel
theorem dX9_times_114 : decode cX9_times 114 = .ok (.ifCond .ne 6, 3) := by decide +kernel
theorem dX9_times_117 : decode cX9_times 117 = .ok (.bipush (-2), 2) := by decide +kernel
theorem dX9_times_119 : decode cX9_times 119 = .ok (.ireturn, 1) := by decide +kernel
theorem dX9_times_120 : decode cX9_times 120 = .ok (.iinc 8 2, 3) := by decide +kernel
theorem dX9_times_123 : decode cX9_times 123 = .ok (.goto (-51), 3) := by decide +kernel
theorem dX9_times_126 : decode cX9_times 126 = .ok (.aload_n 0, 1) := by decide +kernel
theorem dX9_times_127 : decode cX9_times 127 = .ok (.getfield 49, 3) := by decide +kernel
theorem dX9_times_130 : decode cX9_times 130 = .ok (.aload_n 0, 1) := by decide +kernel
theorem dX9_times_131 : decode cX9_times 131 = .ok (.getfield 12, 3) := by decide +kernel
theorem dX9_times_134 : decode cX9_times 134 = .ok (.invokevirtual 255, 3) := by decide +kernel
theorem dX9_times_137 : decode cX9_times 137 = .ok (.aload_n 0, 1) := by decide +kernel
theorem dX9_times_138 : decode cX9_times 138 = .ok (.getfield 49, 3) := by decide +kernel
theorem dX9_times_141 : decode cX9_times 141 = .ok (.aload 6, 2) := by decide +kernel
theorem dX9_times_143 : decode cX9_times 143 = .ok (.iload_n 3, 1) := by decide +kernel
theorem dX9_times_144 : decode cX9_times 144 = .ok (.iload 4, 2) := by decide +kernel
theorem dX9_times_146 : decode cX9_times 146 = .ok (.invokevirtual 258, 3) := by decide +kernel
theorem dX9_times_149 : decode cX9_times 149 = .ok (.istore 8, 2) := by decide +kernel
theorem dX9_times_151 : decode cX9_times 151 = .ok (.iload 5, 2) := by decide +kernel
theorem dX9_times_153 : decode cX9_times 153 = .ok (.ifCond .ne 6, 3) := by decide +kernel
theorem dX9_times_156 : decode cX9_times 156 = .ok (.iload 8, 2) := by decide +kernel
theorem dX9_times_158 : decode cX9_times 158 = .ok (.ireturn, 1) := by decide +kernel
theorem dX9_times_159 : decode cX9_times 159 = .ok (.iload 8, 2) := by decide +kernel
theorem dX9_times_161 : decode cX9_times 161 = .ok (.ifCond .ne 6, 3) := by decide +kernel
theorem dX9_times_164 : decode cX9_times 164 = .ok (.bipush (-4), 2) := by decide +kernel
theorem dX9_times_166 : decode cX9_times 166 = .ok (.ireturn, 1) := by decide +kernel
theorem dX9_times_167 : decode cX9_times 167 = .ok (.iload 5, 2) := by decide +kernel
theorem dX9_times_169 : decode cX9_times 169 = .ok (.iconst 1, 1) := by decide +kernel
theorem dX9_times_170 : decode cX9_times 170 = .ok (.if_icmp .ne 13, 3) := by decide +kernel
theorem dX9_times_173 : decode cX9_times 173 = .ok (.aload_n 0, 1) := by decide +kernel
theorem dX9_times_174 : decode cX9_times 174 = .ok (.getfield 49, 3) := by decide +kernel
theorem dX9_times_177 : decode cX9_times 177 = .ok (.invokevirtual 262, 3) := by decide +kernel
theorem dX9_times_180 : decode cX9_times 180 = .ok (.goto 10, 3) := by decide +kernel
theorem dX9_times_183 : decode cX9_times 183 = .ok (.aload_n 0, 1) := by decide +kernel
theorem dX9_times_184 : decode cX9_times 184 = .ok (.getfield 49, 3) := by decide +kernel
theorem dX9_times_187 : decode cX9_times 187 = .ok (.invokevirtual 265, 3) := by decide +kernel
theorem dX9_times_190 : decode cX9_times 190 = .ok (.ireturn, 1) := by decide +kernel
theorem dX9_without_0 : decode cX9_without 0 = .ok (.aload_n 0, 1) := by decide +kernel
theorem dX9_without_1 : decode cX9_without 1 = .ok (.getfield 12, 3) := by decide +kernel
theorem dX9_without_4 : decode cX9_without 4 = .ok (.iload_n 1, 1) := by decide +kernel
theorem dX9_without_5 : decode cX9_without 5 = .ok (.invokevirtual 88, 3) := by decide +kernel
theorem dX9_without_8 : decode cX9_without 8 = .ok (.ifCond .ne 7, 3) := by decide +kernel
theorem dX9_without_11 : decode cX9_without 11 = .ok (.ldc_w 268, 3) := by decide +kernel
theorem dX9_without_14 : decode cX9_without 14 = .ok (.ireturn, 1) := by decide +kernel
theorem dX9_without_15 : decode cX9_without 15 = .ok (.aload_n 0, 1) := by decide +kernel
theorem dX9_without_16 : decode cX9_without 16 = .ok (.invokevirtual 129, 3) := by decide +kernel
theorem dX9_without_19 : decode cX9_without 19 = .ok (.aload_n 0, 1) := by decide +kernel
theorem dX9_without_20 : decode cX9_without 20 = .ok (.getfield 35, 3) := by decide +kernel
theorem dX9_without_23 : decode cX9_without 23 = .ok (.getfield 184, 3) := by decide +kernel
theorem dX9_without_26 : decode cX9_without 26 = .ok (.getfield 188, 3) := by decide +kernel
theorem dX9_without_29 : decode cX9_without 29 = .ok (.aload_n 0, 1) := by decide +kernel
theorem dX9_without_30 : decode cX9_without 30 = .ok (.getfield 49, 3) := by decide +kernel
theorem dX9_without_33 : decode cX9_without 33 = .ok (.aload_n 0, 1) := by decide +kernel
theorem dX9_without_34 : decode cX9_without 34 = .ok (.getfield 12, 3) := by decide +kernel
theorem dX9_without_37 : decode cX9_without 37 = .ok (.iload_n 1, 1) := by decide +kernel
theorem dX9_without_38 : decode cX9_without 38 = .ok (.invokevirtual 269, 3) := by decide +kernel
theorem dX9_without_41 : decode cX9_without 41 = .ok (.isub, 1) := by decide +kernel
theorem dX9_without_42 : decode cX9_without 42 = .ok (.ireturn, 1) := by decide +kernel
theorem dX9_image_0 : decode cX9_image 0 = .ok (.aload_n 0, 1) := by decide +kernel
theorem dX9_image_1 : decode cX9_image 1 = .ok (.getfield 16, 3) := by decide +kernel
theorem dX9_image_4 : decode cX9_image 4 = .ok (.aload_n 0, 1) := by decide +kernel
theorem dX9_image_5 : decode cX9_image 5 = .ok (.getfield 12, 3) := by decide +kernel
theorem dX9_image_8 : decode cX9_image 8 = .ok (.invokevirtual 272, 3) := by decide +kernel
theorem dX9_image_11 : decode cX9_image 11 = .ok (.aload_n 0, 1) := by decide +kernel
theorem dX9_image_12 : decode cX9_image 12 = .ok (.iconst 1, 1) := by decide +kernel
theorem dX9_image_13 : decode cX9_image 13 = .ok (.putfield 275, 3) := by decide +kernel
theorem dX9_image_16 : decode cX9_image 16 = .ok (.iconst 1, 1) := by decide +kernel
theorem dX9_image_17 : decode cX9_image 17 = .ok (.ireturn, 1) := by decide +kernel
theorem dX9_restore_0 : decode cX9_restore 0 = .ok (.aload_n 0, 1) := by decide +kernel
theorem dX9_restore_1 : decode cX9_restore 1 = .ok (.getfield 275, 3) := by decide +kernel
theorem dX9_restore_4 : decode cX9_restore 4 = .ok (.ifCond .ne 6, 3) := by decide +kernel
theorem dX9_restore_7 : decode cX9_restore 7 = .ok (.bipush (-4), 2) := by decide +kernel
theorem dX9_restore_9 : decode cX9_restore 9 = .ok (.ireturn, 1) := by decide +kernel
theorem dX9_restore_10 : decode cX9_restore 10 = .ok (.aload_n 0, 1) := by decide +kernel
theorem dX9_restore_11 : decode cX9_restore 11 = .ok (.getfield 12, 3) := by decide +kernel
theorem dX9_restore_14 : decode cX9_restore 14 = .ok (.aload_n 0, 1) := by decide +kernel
theorem dX9_restore_15 : decode cX9_restore 15 = .ok (.getfield 16, 3) := by decide +kernel
theorem dX9_restore_18 : decode cX9_restore 18 = .ok (.invokevirtual 272, 3) := by decide +kernel
theorem dX9_restore_21 : decode cX9_restore 21 = .ok (.aload_n 0, 1) := by decide +kernel
theorem dX9_restore_22 : decode cX9_restore 22 = .ok (.invokevirtual 68, 3) := by decide +kernel
theorem dX9_restore_25 : decode cX9_restore 25 = .ok (.iconst 1, 1) := by decide +kernel
theorem dX9_restore_26 : decode cX9_restore 26 = .ok (.ireturn, 1) := by decide +kernel
theorem dX9_sheet_0 : decode cX9_sheet 0 = .ok (.iload_n 1, 1) := by decide +kernel
theorem dX9_sheet_1 : decode cX9_sheet 1 = .ok (.iconst 4, 1) := by decide +kernel
theorem dX9_sheet_2 : decode cX9_sheet 2 = .ok (.invokestatic 54, 3) := by decide +kernel
theorem dX9_sheet_5 : decode cX9_sheet 5 = .ok (.ifCond .eq 17, 3) := by decide +kernel
theorem dX9_sheet_8 : decode cX9_sheet 8 = .ok (.iload_n 2, 1) := by decide +kernel
theorem dX9_sheet_9 : decode cX9_sheet 9 = .ok (.iconst 3, 1) := by decide +kernel
theorem dX9_sheet_10 : decode cX9_sheet 10 = .ok (.invokestatic 54, 3) := by decide +kernel
theorem dX9_sheet_13 : decode cX9_sheet 13 = .ok (.ifCond .eq 9, 3) := by decide +kernel
theorem dX9_sheet_16 : decode cX9_sheet 16 = .ok (.iload_n 3, 1) := by decide +kernel
theorem dX9_sheet_17 : decode cX9_sheet 17 = .ok (.bipush 16, 2) := by decide +kernel
theorem dX9_sheet_19 : decode cX9_sheet 19 = .ok (.if_icmp .le 5, 3) := by decide +kernel
theorem dX9_sheet_22 : decode cX9_sheet 22 = .ok (.iconst (-1), 1) := by decide +kernel
theorem dX9_sheet_23 : decode cX9_sheet 23 = .ok (.ireturn, 1) := by decide +kernel
theorem dX9_sheet_24 : decode cX9_sheet 24 = .ok (.iload_n 3, 1) := by decide +kernel
theorem dX9_sheet_25 : decode cX9_sheet 25 = .ok (.ifCond .ge 6, 3) := by decide +kernel
theorem dX9_sheet_28 : decode cX9_sheet 28 = .ok (.bipush (-14), 2) := by decide +kernel
theorem dX9_sheet_30 : decode cX9_sheet 30 = .ok (.ireturn, 1) := by decide +kernel
theorem dX9_sheet_31 : decode cX9_sheet 31 = .ok (.aload_n 0, 1) := by decide +kernel
theorem dX9_sheet_32 : decode cX9_sheet 32 = .ok (.getfield 28, 3) := by decide +kernel
theorem dX9_sheet_35 : decode cX9_sheet 35 = .ok (.iload_n 1, 1) := by decide +kernel
theorem dX9_sheet_36 : decode cX9_sheet 36 = .ok (.aaload, 1) := by decide +kernel
theorem dX9_sheet_37 : decode cX9_sheet 37 = .ok (.iload_n 2, 1) := by decide +kernel
theorem dX9_sheet_38 : decode cX9_sheet 38 = .ok (.iload_n 3, 1) := by decide +kernel
theorem dX9_sheet_39 : decode cX9_sheet 39 = .ok (.invokevirtual 279, 3) := by decide +kernel
theorem dX9_sheet_42 : decode cX9_sheet 42 = .ok (.iload_n 3, 1) := by decide +kernel
theorem dX9_sheet_43 : decode cX9_sheet 43 = .ok (.ireturn, 1) := by decide +kernel
theorem dX9_drop_0 : decode cX9_drop 0 = .ok (.iload_n 1, 1) := by decide +kernel
theorem dX9_drop_1 : decode cX9_drop 1 = .ok (.iconst 4, 1) := by decide +kernel
theorem dX9_drop_2 : decode cX9_drop 2 = .ok (.invokestatic 54, 3) := by decide +kernel
theorem dX9_drop_5 : decode cX9_drop 5 = .ok (.ifCond .ne 5, 3) := by decide +kernel
theorem dX9_drop_8 : decode cX9_drop 8 = .ok (.iconst (-1), 1) := by decide +kernel
theorem dX9_drop_9 : decode cX9_drop 9 = .ok (.ireturn, 1) := by decide +kernel
theorem dX9_drop_10 : decode cX9_drop 10 = .ok (.aload_n 0, 1) := by decide +kernel
theorem dX9_drop_11 : decode cX9_drop 11 = .ok (.getfield 28, 3) := by decide +kernel
theorem dX9_drop_14 : decode cX9_drop 14 = .ok (.iload_n 1, 1) := by decide +kernel
theorem dX9_drop_15 : decode cX9_drop 15 = .ok (.aaload, 1) := by decide +kernel
theorem dX9_drop_16 : decode cX9_drop 16 = .ok (.invokevirtual 283, 3) := by decide +kernel
theorem dX9_drop_19 : decode cX9_drop 19 = .ok (.ifCond .ne 6, 3) := by decide +kernel
theorem dX9_drop_22 : decode cX9_drop 22 = .ok (.bipush (-11), 2) := by decide +kernel
theorem dX9_drop_24 : decode cX9_drop 24 = .ok (.ireturn, 1) := by decide +kernel
theorem dX9_drop_25 : decode cX9_drop 25 = .ok (.aload_n 0, 1) := by decide +kernel
theorem dX9_drop_26 : decode cX9_drop 26 = .ok (.getfield 28, 3) := by decide +kernel
theorem dX9_drop_29 : decode cX9_drop 29 = .ok (.iload_n 1, 1) := by decide +kernel
theorem dX9_drop_30 : decode cX9_drop 30 = .ok (.aaload, 1) := by decide +kernel
theorem dX9_drop_31 : decode cX9_drop 31 = .ok (.invokevirtual 287, 3) := by decide +kernel
theorem dX9_drop_34 : decode cX9_drop 34 = .ok (.ireturn, 1) := by decide +kernel
theorem dX9_item_0 : decode cX9_item 0 = .ok (.iload_n 1, 1) := by decide +kernel
theorem dX9_item_1 : decode cX9_item 1 = .ok (.iconst 4, 1) := by decide +kernel
theorem dX9_item_2 : decode cX9_item 2 = .ok (.invokestatic 54, 3) := by decide +kernel
theorem dX9_item_5 : decode cX9_item 5 = .ok (.ifCond .eq 11, 3) := by decide +kernel
theorem dX9_item_8 : decode cX9_item 8 = .ok (.iload_n 2, 1) := by decide +kernel
theorem dX9_item_9 : decode cX9_item 9 = .ok (.iconst 3, 1) := by decide +kernel
theorem dX9_item_10 : decode cX9_item 10 = .ok (.invokestatic 54, 3) := by decide +kernel
theorem dX9_item_13 : decode cX9_item 13 = .ok (.ifCond .ne 5, 3) := by decide +kernel
theorem dX9_item_16 : decode cX9_item 16 = .ok (.iconst (-1), 1) := by decide +kernel
theorem dX9_item_17 : decode cX9_item 17 = .ok (.ireturn, 1) := by decide +kernel
theorem dX9_item_18 : decode cX9_item 18 = .ok (.aload_n 0, 1) := by decide +kernel
theorem dX9_item_19 : decode cX9_item 19 = .ok (.getfield 28, 3) := by decide +kernel
theorem dX9_item_22 : decode cX9_item 22 = .ok (.iload_n 1, 1) := by decide +kernel
theorem dX9_item_23 : decode cX9_item 23 = .ok (.aaload, 1) := by decide +kernel
theorem dX9_item_24 : decode cX9_item 24 = .ok (.iload_n 2, 1) := by decide +kernel
theorem dX9_item_25 : decode cX9_item 25 = .ok (.iload_n 3, 1) := by decide +kernel
theorem dX9_item_26 : decode cX9_item 26 = .ok (.iconst 1, 1) := by decide +kernel
theorem dX9_item_27 : decode cX9_item 27 = .ok (.invokevirtual 248, 3) := by decide +kernel
theorem dX9_item_30 : decode cX9_item 30 = .ok (.istore 5, 2) := by decide +kernel
theorem dX9_item_32 : decode cX9_item 32 = .ok (.iload 5, 2) := by decide +kernel
theorem dX9_item_34 : decode cX9_item 34 = .ok (.ifCond .eq 6, 3) := by decide +kernel
theorem dX9_item_37 : decode cX9_item 37 = .ok (.iload 5, 2) := by decide +kernel
theorem dX9_item_39 : decode cX9_item 39 = .ok (.ireturn, 1) := by decide +kernel
theorem dX9_item_40 : decode cX9_item 40 = .ok (.aload_n 0, 1) := by decide +kernel
theorem dX9_item_41 : decode cX9_item 41 = .ok (.getfield 28, 3) := by decide +kernel
theorem dX9_item_44 : decode cX9_item 44 = .ok (.iload_n 1, 1) := by decide +kernel
theorem dX9_item_45 : decode cX9_item 45 = .ok (.aaload, 1) := by decide +kernel
theorem dX9_item_46 : decode cX9_item 46 = .ok (.iload_n 3, 1) := by decide +kernel
theorem dX9_item_47 : decode cX9_item 47 = .ok (.iload 4, 2) := by decide +kernel
theorem dX9_item_49 : decode cX9_item 49 = .ok (.invokevirtual 290, 3) := by decide +kernel
theorem dX9_item_52 : decode cX9_item 52 = .ok (.iconst 1, 1) := by decide +kernel
theorem dX9_item_53 : decode cX9_item 53 = .ok (.ireturn, 1) := by decide +kernel
theorem dX9_film_0 : decode cX9_film 0 = .ok (.iload_n 1, 1) := by decide +kernel
theorem dX9_film_1 : decode cX9_film 1 = .ok (.iconst 4, 1) := by decide +kernel
theorem dX9_film_2 : decode cX9_film 2 = .ok (.invokestatic 54, 3) := by decide +kernel
theorem dX9_film_5 : decode cX9_film 5 = .ok (.ifCond .eq 11, 3) := by decide +kernel
theorem dX9_film_8 : decode cX9_film 8 = .ok (.iload_n 2, 1) := by decide +kernel
theorem dX9_film_9 : decode cX9_film 9 = .ok (.iconst 3, 1) := by decide +kernel
theorem dX9_film_10 : decode cX9_film 10 = .ok (.invokestatic 54, 3) := by decide +kernel
theorem dX9_film_13 : decode cX9_film 13 = .ok (.ifCond .ne 5, 3) := by decide +kernel
theorem dX9_film_16 : decode cX9_film 16 = .ok (.iconst (-1), 1) := by decide +kernel
theorem dX9_film_17 : decode cX9_film 17 = .ok (.ireturn, 1) := by decide +kernel
theorem dX9_film_18 : decode cX9_film 18 = .ok (.aload_n 0, 1) := by decide +kernel
theorem dX9_film_19 : decode cX9_film 19 = .ok (.getfield 28, 3) := by decide +kernel
theorem dX9_film_22 : decode cX9_film 22 = .ok (.iload_n 1, 1) := by decide +kernel
theorem dX9_film_23 : decode cX9_film 23 = .ok (.aaload, 1) := by decide +kernel
theorem dX9_film_24 : decode cX9_film 24 = .ok (.iload_n 2, 1) := by decide +kernel
theorem dX9_film_25 : decode cX9_film 25 = .ok (.iload_n 3, 1) := by decide +kernel
theorem dX9_film_26 : decode cX9_film 26 = .ok (.aload_n 0, 1) := by decide +kernel
theorem dX9_film_27 : decode cX9_film 27 = .ok (.getfield 12, 3) := by decide +kernel
theorem dX9_film_30 : decode cX9_film 30 = .ok (.getfield 80, 3) := by decide +kernel
theorem dX9_film_33 : decode cX9_film 33 = .ok (.invokevirtual 248, 3) := by decide +kernel
theorem dX9_film_36 : decode cX9_film 36 = .ok (.istore 4, 2) := by decide +kernel
theorem dX9_film_38 : decode cX9_film 38 = .ok (.iload 4, 2) := by decide +kernel
theorem dX9_film_40 : decode cX9_film 40 = .ok (.ifCond .eq 6, 3) := by decide +kernel
theorem dX9_film_43 : decode cX9_film 43 = .ok (.iload 4, 2) := by decide +kernel
theorem dX9_film_45 : decode cX9_film 45 = .ok (.ireturn, 1) := by decide +kernel
theorem dX9_film_46 : decode cX9_film 46 = .ok (.aload_n 0, 1) := by decide +kernel
theorem dX9_film_47 : decode cX9_film 47 = .ok (.invokevirtual 129, 3) := by decide +kernel
theorem dX9_film_50 : decode cX9_film 50 = .ok (.iconst 0, 1) := by decide +kernel
theorem dX9_film_51 : decode cX9_film 51 = .ok (.istore 5, 2) := by decide +kernel
theorem dX9_film_53 : decode cX9_film 53 = .ok (.iload 5, 2) := by decide +kernel
theorem dX9_film_55 : decode cX9_film 55 = .ok (.aload_n 0, 1) := by decide +kernel
theorem dX9_film_56 : decode cX9_film 56 = .ok (.getfield 12, 3) := by decide +kernel
theorem dX9_film_59 : decode cX9_film 59 = .ok (.getfield 80, 3) := by decide +kernel
theorem dX9_film_62 : decode cX9_film 62 = .ok (.if_icmp .ge 35, 3) := by decide +kernel
theorem dX9_film_65 : decode cX9_film 65 = .ok (.aload_n 0, 1) := by decide +kernel
theorem dX9_film_66 : decode cX9_film 66 = .ok (.getfield 28, 3) := by decide +kernel
theorem dX9_film_69 : decode cX9_film 69 = .ok (.iload_n 1, 1) := by decide +kernel
theorem dX9_film_70 : decode cX9_film 70 = .ok (.aaload, 1) := by decide +kernel
theorem dX9_film_71 : decode cX9_film 71 = .ok (.iload_n 3, 1) := by decide +kernel
theorem dX9_film_72 : decode cX9_film 72 = .ok (.iload 5, 2) := by decide +kernel
theorem dX9_film_74 : decode cX9_film 74 = .ok (.iadd, 1) := by decide +kernel
theorem dX9_film_75 : decode cX9_film 75 = .ok (.aload_n 0, 1) := by decide +kernel
theorem dX9_film_76 : decode cX9_film 76 = .ok (.getfield 35, 3) := by decide +kernel
theorem dX9_film_79 : decode cX9_film 79 = .ok (.getfield 132, 3) := by decide +kernel
theorem dX9_film_82 : decode cX9_film 82 = .ok (.getfield 141, 3) := by decide +kernel
theorem dX9_film_85 : decode cX9_film 85 = .ok (.iload 5, 2) := by decide +kernel
theorem dX9_film_87 : decode cX9_film 87 = .ok (.iaload, 1) := by decide +kernel
theorem dX9_film_88 : decode cX9_film 88 = .ok (.invokevirtual 290, 3) := by decide +kernel
theorem dX9_film_91 : decode cX9_film 91 = .ok (.iinc 5 1, 3) := by decide +kernel
theorem dX9_film_94 : decode cX9_film 94 = .ok (.goto (-41), 3) := by decide +kernel
theorem dX9_film_97 : decode cX9_film 97 = .ok (.aload_n 0, 1) := by decide +kernel
theorem dX9_film_98 : decode cX9_film 98 = .ok (.getfield 12, 3) := by decide +kernel
theorem dX9_film_101 : decode cX9_film 101 = .ok (.getfield 80, 3) := by decide +kernel
theorem dX9_film_104 : decode cX9_film 104 = .ok (.ireturn, 1) := by decide +kernel
theorem dX9_isIn_0 : decode cX9_isIn 0 = .ok (.iload_n 0, 1) := by decide +kernel
theorem dX9_isIn_1 : decode cX9_isIn 1 = .ok (.ifCond .lt 12, 3) := by decide +kernel
theorem dX9_isIn_4 : decode cX9_isIn 4 = .ok (.iload_n 0, 1) := by decide +kernel
theorem dX9_isIn_5 : decode cX9_isIn 5 = .ok (.iload_n 1, 1) := by decide +kernel
theorem dX9_isIn_6 : decode cX9_isIn 6 = .ok (.if_icmp .ge 7, 3) := by decide +kernel
theorem dX9_isIn_9 : decode cX9_isIn 9 = .ok (.iconst 1, 1) := by decide +kernel
theorem dX9_isIn_10 : decode cX9_isIn 10 = .ok (.goto 4, 3) := by decide +kernel
theorem dX9_isIn_13 : decode cX9_isIn 13 = .ok (.iconst 0, 1) := by decide +kernel
theorem dX9_isIn_14 : decode cX9_isIn 14 = .ok (.ireturn, 1) := by decide +kernel
theorem dX9_forget_0 : decode cX9_forget 0 = .ok (.aload_n 0, 1) := by decide +kernel
theorem dX9_forget_1 : decode cX9_forget 1 = .ok (.iconst 0, 1) := by decide +kernel
theorem dX9_forget_2 : decode cX9_forget 2 = .ok (.putfield 293, 3) := by decide +kernel
theorem dX9_forget_5 : decode cX9_forget 5 = .ok (.aload_n 0, 1) := by decide +kernel
theorem dX9_forget_6 : decode cX9_forget 6 = .ok (.getfield 49, 3) := by decide +kernel
theorem dX9_forget_9 : decode cX9_forget 9 = .ok (.invokevirtual 296, 3) := by decide +kernel
theorem dX9_forget_12 : decode cX9_forget 12 = .ok (.return_, 1) := by decide +kernel
theorem dX9_play_0 : decode cX9_play 0 = .ok (.aload_n 0, 1) := by decide +kernel
theorem dX9_play_1 : decode cX9_play 1 = .ok (.getfield 293, 3) := by decide +kernel
theorem dX9_play_4 : decode cX9_play 4 = .ok (.ifCond .eq 4, 3) := by decide +kernel
theorem dX9_play_7 : decode cX9_play 7 = .ok (.return_, 1) := by decide +kernel
theorem dX9_play_8 : decode cX9_play 8 = .ok (.aload_n 0, 1) := by decide +kernel
theorem dX9_play_9 : decode cX9_play 9 = .ok (.getfield 35, 3) := by decide +kernel
theorem dX9_play_12 : decode cX9_play 12 = .ok (.aload_n 0, 1) := by decide +kernel
theorem dX9_play_13 : decode cX9_play 13 = .ok (.getfield 12, 3) := by decide +kernel
theorem dX9_play_16 : decode cX9_play 16 = .ok (.aload_n 0, 1) := by decide +kernel
theorem dX9_play_17 : decode cX9_play 17 = .ok (.getfield 12, 3) := by decide +kernel
theorem dX9_play_20 : decode cX9_play 20 = .ok (.invokevirtual 226, 3) := by decide +kernel
theorem dX9_play_23 : decode cX9_play 23 = .ok (.invokevirtual 297, 3) := by decide +kernel
theorem dX9_play_26 : decode cX9_play 26 = .ok (.iconst 0, 1) := by decide +kernel
theorem dX9_play_27 : decode cX9_play 27 = .ok (.istore_n 1, 1) := by decide +kernel
theorem dX9_play_28 : decode cX9_play 28 = .ok (.iload_n 1, 1) := by decide +kernel
theorem dX9_play_29 : decode cX9_play 29 = .ok (.bipush 120, 2) := by decide +kernel
theorem dX9_play_31 : decode cX9_play 31 = .ok (.if_icmp .ge 29, 3) := by decide +kernel
theorem dX9_play_34 : decode cX9_play 34 = .ok (.aload_n 0, 1) := by decide +kernel
theorem dX9_play_35 : decode cX9_play 35 = .ok (.getfield 35, 3) := by decide +kernel
theorem dX9_play_38 : decode cX9_play 38 = .ok (.iload_n 1, 1) := by decide +kernel
theorem dX9_play_39 : decode cX9_play 39 = .ok (.invokevirtual 300, 3) := by decide +kernel
theorem dX9_play_42 : decode cX9_play 42 = .ok (.aload_n 0, 1) := by decide +kernel
theorem dX9_play_43 : decode cX9_play 43 = .ok (.getfield 42, 3) := by decide +kernel
theorem dX9_play_46 : decode cX9_play 46 = .ok (.iload_n 1, 1) := by decide +kernel
theorem dX9_play_47 : decode cX9_play 47 = .ok (.aload_n 0, 1) := by decide +kernel
theorem dX9_play_48 : decode cX9_play 48 = .ok (.getfield 35, 3) := by decide +kernel
theorem dX9_play_51 : decode cX9_play 51 = .ok (.invokevirtual 304, 3) := by decide +kernel
theorem dX9_play_54 : decode cX9_play 54 = .ok (.iinc 1 1, 3) := by decide +kernel
theorem dX9_play_57 : decode cX9_play 57 = .ok (.goto (-29), 3) := by decide +kernel
theorem dX9_play_60 : decode cX9_play 60 = .ok (.aload_n 0, 1) := by decide +kernel
theorem dX9_play_61 : decode cX9_play 61 = .ok (.iconst 1, 1) := by decide +kernel
theorem dX9_play_62 : decode cX9_play 62 = .ok (.putfield 293, 3) := by decide +kernel
theorem dX9_play_65 : decode cX9_play 65 = .ok (.return_, 1) := by decide +kernel
