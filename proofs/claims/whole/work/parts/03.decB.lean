theorem dX10_in_0 : decode cX10_in 0 = .ok (.lload_n 0, 1) := by decide +kernel
theorem dX10_in_1 : decode cX10_in 1 = .ok (.lload_n 2, 1) := by decide +kernel
theorem dX10_in_2 : decode cX10_in 2 = .ok (.lcmp, 1) := by decide +kernel
theorem dX10_in_3 : decode cX10_in 3 = .ok (.ifCond .lt 14, 3) := by decide +kernel
theorem dX10_in_6 : decode cX10_in 6 = .ok (.lload_n 0, 1) := by decide +kernel
theorem dX10_in_7 : decode cX10_in 7 = .ok (.lload 4, 2) := by decide +kernel
theorem dX10_in_9 : decode cX10_in 9 = .ok (.lcmp, 1) := by decide +kernel
theorem dX10_in_10 : decode cX10_in 10 = .ok (.ifCond .gt 7, 3) := by decide +kernel
theorem dX10_in_13 : decode cX10_in 13 = .ok (.iconst 1, 1) := by decide +kernel
theorem dX10_in_14 : decode cX10_in 14 = .ok (.goto 4, 3) := by decide +kernel
theorem dX10_in_17 : decode cX10_in 17 = .ok (.iconst 0, 1) := by decide +kernel
theorem dX10_in_18 : decode cX10_in 18 = .ok (.ireturn, 1) := by decide +kernel
theorem dX10_init_0 : decode cX10_init 0 = .ok (.aload_n 0, 1) := by decide +kernel
theorem dX10_init_1 : decode cX10_init 1 = .ok (.invokespecial 1, 3) := by decide +kernel
theorem dX10_init_4 : decode cX10_init 4 = .ok (.aload_n 0, 1) := by decide +kernel
theorem dX10_init_5 : decode cX10_init 5 = .ok (.bipush 46, 2) := by decide +kernel
theorem dX10_init_7 : decode cX10_init 7 = .ok (.newarray .int, 2) := by decide +kernel
theorem dX10_init_9 : decode cX10_init 9 = .ok (.putfield 7, 3) := by decide +kernel
theorem dX10_init_12 : decode cX10_init 12 = .ok (.aload_n 0, 1) := by decide +kernel
theorem dX10_init_13 : decode cX10_init 13 = .ok (.bipush 9, 2) := by decide +kernel
theorem dX10_init_15 : decode cX10_init 15 = .ok (.newarray .int, 2) := by decide +kernel
theorem dX10_init_17 : decode cX10_init 17 = .ok (.putfield 13, 3) := by decide +kernel
theorem dX10_init_20 : decode cX10_init 20 = .ok (.aload_n 0, 1) := by decide +kernel
theorem dX10_init_21 : decode cX10_init 21 = .ok (.bipush 12, 2) := by decide +kernel
theorem dX10_init_23 : decode cX10_init 23 = .ok (.newarray .int, 2) := by decide +kernel
theorem dX10_init_25 : decode cX10_init 25 = .ok (.putfield 16, 3) := by decide +kernel
theorem dX10_init_28 : decode cX10_init 28 = .ok (.aload_n 0, 1) := by decide +kernel
theorem dX10_init_29 : decode cX10_init 29 = .ok (.bipush 80, 2) := by decide +kernel
theorem dX10_init_31 : decode cX10_init 31 = .ok (.newarray .int, 2) := by decide +kernel
theorem dX10_init_33 : decode cX10_init 33 = .ok (.putfield 19, 3) := by decide +kernel
theorem dX10_init_36 : decode cX10_init 36 = .ok (.aload_n 0, 1) := by decide +kernel
theorem dX10_init_37 : decode cX10_init 37 = .ok (.bipush 24, 2) := by decide +kernel
theorem dX10_init_39 : decode cX10_init 39 = .ok (.newarray .int, 2) := by decide +kernel
theorem dX10_init_41 : decode cX10_init 41 = .ok (.putfield 22, 3) := by decide +kernel
theorem dX10_init_44 : decode cX10_init 44 = .ok (.aload_n 0, 1) := by decide +kernel
theorem dX10_init_45 : decode cX10_init 45 = .ok (.bipush 12, 2) := by decide +kernel
theorem dX10_init_47 : decode cX10_init 47 = .ok (.newarray .int, 2) := by decide +kernel
theorem dX10_init_49 : decode cX10_init 49 = .ok (.putfield 25, 3) := by decide +kernel
theorem dX10_init_52 : decode cX10_init 52 = .ok (.aload_n 0, 1) := by decide +kernel
theorem dX10_init_53 : decode cX10_init 53 = .ok (.bipush 12, 2) := by decide +kernel
theorem dX10_init_55 : decode cX10_init 55 = .ok (.newarray .int, 2) := by decide +kernel
theorem dX10_init_57 : decode cX10_init 57 = .ok (.putfield 28, 3) := by decide +kernel
theorem dX10_init_60 : decode cX10_init 60 = .ok (.aload_n 0, 1) := by decide +kernel
theorem dX10_init_61 : decode cX10_init 61 = .ok (.bipush 12, 2) := by decide +kernel
theorem dX10_init_63 : decode cX10_init 63 = .ok (.newarray .int, 2) := by decide +kernel
theorem dX10_init_65 : decode cX10_init 65 = .ok (.putfield 31, 3) := by decide +kernel
theorem dX10_init_68 : decode cX10_init 68 = .ok (.aload_n 0, 1) := by decide +kernel
theorem dX10_init_69 : decode cX10_init 69 = .ok (.bipush 12, 2) := by decide +kernel
theorem dX10_init_71 : decode cX10_init 71 = .ok (.newarray .int, 2) := by decide +kernel
theorem dX10_init_73 : decode cX10_init 73 = .ok (.putfield 34, 3) := by decide +kernel
theorem dX10_init_76 : decode cX10_init 76 = .ok (.aload_n 0, 1) := by decide +kernel
theorem dX10_init_77 : decode cX10_init 77 = .ok (.bipush 12, 2) := by decide +kernel
theorem dX10_init_79 : decode cX10_init 79 = .ok (.newarray .int, 2) := by decide +kernel
theorem dX10_init_81 : decode cX10_init 81 = .ok (.putfield 37, 3) := by decide +kernel
theorem dX10_init_84 : decode cX10_init 84 = .ok (.aload_n 0, 1) := by decide +kernel
theorem dX10_init_85 : decode cX10_init 85 = .ok (.bipush 12, 2) := by decide +kernel
theorem dX10_init_87 : decode cX10_init 87 = .ok (.newarray .int, 2) := by decide +kernel
theorem dX10_init_89 : decode cX10_init 89 = .ok (.putfield 40, 3) := by decide +kernel
theorem dX10_init_92 : decode cX10_init 92 = .ok (.aload_n 0, 1) := by decide +kernel
theorem dX10_init_93 : decode cX10_init 93 = .ok (.bipush 12, 2) := by decide +kernel
theorem dX10_init_95 : decode cX10_init 95 = .ok (.newarray .int, 2) := by decide +kernel
theorem dX10_init_97 : decode cX10_init 97 = .ok (.putfield 43, 3) := by decide +kernel
theorem dX10_init_100 : decode cX10_init 100 = .ok (.aload_n 0, 1) := by decide +kernel
theorem dX10_init_101 : decode cX10_init 101 = .ok (.bipush 12, 2) := by decide +kernel
theorem dX10_init_103 : decode cX10_init 103 = .ok (.newarray .int, 2) := by decide +kernel
theorem dX10_init_105 : decode cX10_init 105 = .ok (.putfield 46, 3) := by decide +kernel
theorem dX10_init_108 : decode cX10_init 108 = .ok (.aload_n 0, 1) := by decide +kernel
theorem dX10_init_109 : decode cX10_init 109 = .ok (.bipush 6, 2) := by decide +kernel
theorem dX10_init_111 : decode cX10_init 111 = .ok (.newarray .int, 2) := by decide +kernel
theorem dX10_init_113 : decode cX10_init 113 = .ok (.putfield 49, 3) := by decide +kernel
theorem dX10_init_116 : decode cX10_init 116 = .ok (.aload_n 0, 1) := by decide +kernel
theorem dX10_init_117 : decode cX10_init 117 = .ok (.bipush 6, 2) := by decide +kernel
theorem dX10_init_119 : decode cX10_init 119 = .ok (.newarray .int, 2) := by decide +kernel
theorem dX10_init_121 : decode cX10_init 121 = .ok (.putfield 52, 3) := by decide +kernel
theorem dX10_init_124 : decode cX10_init 124 = .ok (.aload_n 0, 1) := by decide +kernel
theorem dX10_init_125 : decode cX10_init 125 = .ok (.bipush 6, 2) := by decide +kernel
theorem dX10_init_127 : decode cX10_init 127 = .ok (.newarray .int, 2) := by decide +kernel
theorem dX10_init_129 : decode cX10_init 129 = .ok (.putfield 55, 3) := by decide +kernel
theorem dX10_init_132 : decode cX10_init 132 = .ok (.aload_n 0, 1) := by decide +kernel
theorem dX10_init_133 : decode cX10_init 133 = .ok (.bipush 6, 2) := by decide +kernel
theorem dX10_init_135 : decode cX10_init 135 = .ok (.newarray .int, 2) := by decide +kernel
theorem dX10_init_137 : decode cX10_init 137 = .ok (.putfield 58, 3) := by decide +kernel
theorem dX10_init_140 : decode cX10_init 140 = .ok (.aload_n 0, 1) := by decide +kernel
theorem dX10_init_141 : decode cX10_init 141 = .ok (.bipush 46, 2) := by decide +kernel
theorem dX10_init_143 : decode cX10_init 143 = .ok (.newarray .int, 2) := by decide +kernel
theorem dX10_init_145 : decode cX10_init 145 = .ok (.putfield 61, 3) := by decide +kernel
theorem dX10_init_148 : decode cX10_init 148 = .ok (.aload_n 0, 1) := by decide +kernel
theorem dX10_init_149 : decode cX10_init 149 = .ok (.iconst 4, 1) := by decide +kernel
theorem dX10_init_150 : decode cX10_init 150 = .ok (.newarray .int, 2) := by decide +kernel
theorem dX10_init_152 : decode cX10_init 152 = .ok (.putfield 64, 3) := by decide +kernel
theorem dX10_init_155 : decode cX10_init 155 = .ok (.aload_n 0, 1) := by decide +kernel
theorem dX10_init_156 : decode cX10_init 156 = .ok (.iconst 4, 1) := by decide +kernel
theorem dX10_init_157 : decode cX10_init 157 = .ok (.newarray .int, 2) := by decide +kernel
theorem dX10_init_159 : decode cX10_init 159 = .ok (.putfield 67, 3) := by decide +kernel
theorem dX10_init_162 : decode cX10_init 162 = .ok (.aload_n 0, 1) := by decide +kernel
theorem dX10_init_163 : decode cX10_init 163 = .ok (.bipush 64, 2) := by decide +kernel
theorem dX10_init_165 : decode cX10_init 165 = .ok (.newarray .int, 2) := by decide +kernel
theorem dX10_init_167 : decode cX10_init 167 = .ok (.putfield 70, 3) := by decide +kernel
theorem dX10_init_170 : decode cX10_init 170 = .ok (.iconst 0, 1) := by decide +kernel
theorem dX10_init_171 : decode cX10_init 171 = .ok (.istore_n 1, 1) := by decide +kernel
theorem dX10_init_172 : decode cX10_init 172 = .ok (.iload_n 1, 1) := by decide +kernel
theorem dX10_init_173 : decode cX10_init 173 = .ok (.iconst 4, 1) := by decide +kernel
theorem dX10_init_174 : decode cX10_init 174 = .ok (.if_icmp .ge 16, 3) := by decide +kernel
theorem dX10_init_177 : decode cX10_init 177 = .ok (.aload_n 0, 1) := by decide +kernel
theorem dX10_init_178 : decode cX10_init 178 = .ok (.getfield 64, 3) := by decide +kernel
theorem dX10_init_181 : decode cX10_init 181 = .ok (.iload_n 1, 1) := by decide +kernel
theorem dX10_init_182 : decode cX10_init 182 = .ok (.iconst (-1), 1) := by decide +kernel
theorem dX10_init_183 : decode cX10_init 183 = .ok (.iastore, 1) := by decide +kernel
theorem dX10_init_184 : decode cX10_init 184 = .ok (.iinc 1 1, 3) := by decide +kernel
theorem dX10_init_187 : decode cX10_init 187 = .ok (.goto (-15), 3) := by decide +kernel
theorem dX10_init_190 : decode cX10_init 190 = .ok (.aload_n 0, 1) := by decide +kernel
theorem dX10_init_191 : decode cX10_init 191 = .ok (.getfield 7, 3) := by decide +kernel
theorem dX10_init_194 : decode cX10_init 194 = .ok (.iconst 0, 1) := by decide +kernel
theorem dX10_init_195 : decode cX10_init 195 = .ok (.iconst 4, 1) := by decide +kernel
theorem dX10_init_196 : decode cX10_init 196 = .ok (.iastore, 1) := by decide +kernel
theorem dX10_init_197 : decode cX10_init 197 = .ok (.aload_n 0, 1) := by decide +kernel
theorem dX10_init_198 : decode cX10_init 198 = .ok (.getfield 7, 3) := by decide +kernel
theorem dX10_init_201 : decode cX10_init 201 = .ok (.iconst 1, 1) := by decide +kernel
theorem dX10_init_202 : decode cX10_init 202 = .ok (.iconst 2, 1) := by decide +kernel
theorem dX10_init_203 : decode cX10_init 203 = .ok (.iastore, 1) := by decide +kernel
theorem dX10_init_204 : decode cX10_init 204 = .ok (.aload_n 0, 1) := by decide +kernel
theorem dX10_init_205 : decode cX10_init 205 = .ok (.getfield 7, 3) := by decide +kernel
theorem dX10_init_208 : decode cX10_init 208 = .ok (.iconst 2, 1) := by decide +kernel
theorem dX10_init_209 : decode cX10_init 209 = .ok (.iconst 2, 1) := by decide +kernel
theorem dX10_init_210 : decode cX10_init 210 = .ok (.iastore, 1) := by decide +kernel
theorem dX10_init_211 : decode cX10_init 211 = .ok (.aload_n 0, 1) := by decide +kernel
theorem dX10_init_212 : decode cX10_init 212 = .ok (.getfield 7, 3) := by decide +kernel
theorem dX10_init_215 : decode cX10_init 215 = .ok (.iconst 3, 1) := by decide +kernel
theorem dX10_init_216 : decode cX10_init 216 = .ok (.iconst 2, 1) := by decide +kernel
theorem dX10_init_217 : decode cX10_init 217 = .ok (.iastore, 1) := by decide +kernel
theorem dX10_init_218 : decode cX10_init 218 = .ok (.aload_n 0, 1) := by decide +kernel
theorem dX10_init_219 : decode cX10_init 219 = .ok (.getfield 7, 3) := by decide +kernel
theorem dX10_init_222 : decode cX10_init 222 = .ok (.iconst 4, 1) := by decide +kernel
theorem dX10_init_223 : decode cX10_init 223 = .ok (.iconst 2, 1) := by decide +kernel
theorem dX10_init_224 : decode cX10_init 224 = .ok (.iastore, 1) := by decide +kernel
theorem dX10_init_225 : decode cX10_init 225 = .ok (.aload_n 0, 1) := by decide +kernel
theorem dX10_init_226 : decode cX10_init 226 = .ok (.getfield 7, 3) := by decide +kernel
theorem dX10_init_229 : decode cX10_init 229 = .ok (.iconst 5, 1) := by decide +kernel
theorem dX10_init_230 : decode cX10_init 230 = .ok (.iconst 2, 1) := by decide +kernel
theorem dX10_init_231 : decode cX10_init 231 = .ok (.iastore, 1) := by decide +kernel
theorem dX10_init_232 : decode cX10_init 232 = .ok (.aload_n 0, 1) := by decide +kernel
theorem dX10_init_233 : decode cX10_init 233 = .ok (.getfield 7, 3) := by decide +kernel
theorem dX10_init_236 : decode cX10_init 236 = .ok (.bipush 6, 2) := by decide +kernel
theorem dX10_init_238 : decode cX10_init 238 = .ok (.iconst 1, 1) := by decide +kernel
theorem dX10_init_239 : decode cX10_init 239 = .ok (.iastore, 1) := by decide +kernel
theorem dX10_init_240 : decode cX10_init 240 = .ok (.aload_n 0, 1) := by decide +kernel
theorem dX10_init_241 : decode cX10_init 241 = .ok (.getfield 7, 3) := by decide +kernel
theorem dX10_init_244 : decode cX10_init 244 = .ok (.bipush 7, 2) := by decide +kernel
theorem dX10_init_246 : decode cX10_init 246 = .ok (.iconst 3, 1) := by decide +kernel
theorem dX10_init_247 : decode cX10_init 247 = .ok (.iastore, 1) := by decide +kernel
theorem dX10_init_248 : decode cX10_init 248 = .ok (.aload_n 0, 1) := by decide +kernel
theorem dX10_init_249 : decode cX10_init 249 = .ok (.getfield 7, 3) := by decide +kernel
theorem dX10_init_252 : decode cX10_init 252 = .ok (.bipush 8, 2) := by decide +kernel
theorem dX10_init_254 : decode cX10_init 254 = .ok (.bipush 120, 2) := by decide +kernel
theorem dX10_init_256 : decode cX10_init 256 = .ok (.iastore, 1) := by decide +kernel
theorem dX10_init_257 : decode cX10_init 257 = .ok (.return_, 1) := by decide +kernel
theorem dX10_has_0 : decode cX10_has 0 = .ok (.iload_n 0, 1) := by decide +kernel
theorem dX10_has_1 : decode cX10_has 1 = .ok (.iload_n 1, 1) := by decide +kernel
theorem dX10_has_2 : decode cX10_has 2 = .ok (.ishr, 1) := by decide +kernel
theorem dX10_has_3 : decode cX10_has 3 = .ok (.iconst 1, 1) := by decide +kernel
theorem dX10_has_4 : decode cX10_has 4 = .ok (.iand, 1) := by decide +kernel
theorem dX10_has_5 : decode cX10_has 5 = .ok (.iconst 1, 1) := by decide +kernel
theorem dX10_has_6 : decode cX10_has 6 = .ok (.if_icmp .ne 7, 3) := by decide +kernel
theorem dX10_has_9 : decode cX10_has 9 = .ok (.iconst 1, 1) := by decide +kernel
theorem dX10_has_10 : decode cX10_has 10 = .ok (.goto 4, 3) := by decide +kernel
theorem dX10_has_13 : decode cX10_has 13 = .ok (.iconst 0, 1) := by decide +kernel
theorem dX10_has_14 : decode cX10_has 14 = .ok (.ireturn, 1) := by decide +kernel
theorem dX10_ones_0 : decode cX10_ones 0 = .ok (.iconst 0, 1) := by decide +kernel
theorem dX10_ones_1 : decode cX10_ones 1 = .ok (.istore_n 1, 1) := by decide +kernel
theorem dX10_ones_2 : decode cX10_ones 2 = .ok (.iload_n 0, 1) := by decide +kernel
theorem dX10_ones_3 : decode cX10_ones 3 = .ok (.istore_n 2, 1) := by decide +kernel
theorem dX10_ones_4 : decode cX10_ones 4 = .ok (.iload_n 2, 1) := by decide +kernel
theorem dX10_ones_5 : decode cX10_ones 5 = .ok (.ifCond .eq 15, 3) := by decide +kernel
theorem dX10_ones_8 : decode cX10_ones 8 = .ok (.iinc 1 1, 3) := by decide +kernel
theorem dX10_ones_11 : decode cX10_ones 11 = .ok (.iload_n 2, 1) := by decide +kernel
theorem dX10_ones_12 : decode cX10_ones 12 = .ok (.iload_n 2, 1) := by decide +kernel
theorem dX10_ones_13 : decode cX10_ones 13 = .ok (.iconst 1, 1) := by decide +kernel
theorem dX10_ones_14 : decode cX10_ones 14 = .ok (.isub, 1) := by decide +kernel
theorem dX10_ones_15 : decode cX10_ones 15 = .ok (.iand, 1) := by decide +kernel
theorem dX10_ones_16 : decode cX10_ones 16 = .ok (.istore_n 2, 1) := by decide +kernel
theorem dX10_ones_17 : decode cX10_ones 17 = .ok (.goto (-13), 3) := by decide +kernel
theorem dX10_ones_20 : decode cX10_ones 20 = .ok (.iload_n 1, 1) := by decide +kernel
theorem dX10_ones_21 : decode cX10_ones 21 = .ok (.ireturn, 1) := by decide +kernel
theorem dX10_leastOf_0 : decode cX10_leastOf 0 = .ok (.iload_n 0, 1) := by decide +kernel
theorem dX10_leastOf_1 : decode cX10_leastOf 1 = .ok (.ifCond .ne 7, 3) := by decide +kernel
theorem dX10_leastOf_4 : decode cX10_leastOf 4 = .ok (.iconst 3, 1) := by decide +kernel
theorem dX10_leastOf_5 : decode cX10_leastOf 5 = .ok (.goto 25, 3) := by decide +kernel
theorem dX10_leastOf_8 : decode cX10_leastOf 8 = .ok (.iload_n 0, 1) := by decide +kernel
theorem dX10_leastOf_9 : decode cX10_leastOf 9 = .ok (.iconst 3, 1) := by decide +kernel
theorem dX10_leastOf_10 : decode cX10_leastOf 10 = .ok (.if_icmp .eq 15, 3) := by decide +kernel
theorem dX10_leastOf_13 : decode cX10_leastOf 13 = .ok (.iload_n 0, 1) := by decide +kernel
theorem dX10_leastOf_14 : decode cX10_leastOf 14 = .ok (.bipush 6, 2) := by decide +kernel
theorem dX10_leastOf_16 : decode cX10_leastOf 16 = .ok (.if_icmp .eq 9, 3) := by decide +kernel
theorem dX10_leastOf_19 : decode cX10_leastOf 19 = .ok (.iload_n 0, 1) := by decide +kernel
theorem dX10_leastOf_20 : decode cX10_leastOf 20 = .ok (.bipush 8, 2) := by decide +kernel
theorem dX10_leastOf_22 : decode cX10_leastOf 22 = .ok (.if_icmp .ne 7, 3) := by decide +kernel
theorem dX10_leastOf_25 : decode cX10_leastOf 25 = .ok (.iconst 0, 1) := by decide +kernel
theorem dX10_leastOf_26 : decode cX10_leastOf 26 = .ok (.goto 4, 3) := by decide +kernel
theorem dX10_leastOf_29 : decode cX10_leastOf 29 = .ok (.iconst 1, 1) := by decide +kernel
theorem dX10_leastOf_30 : decode cX10_leastOf 30 = .ok (.ireturn, 1) := by decide +kernel
theorem dX10_mostOf_0 : decode cX10_mostOf 0 = .ok (.iload_n 0, 1) := by decide +kernel
theorem dX10_mostOf_1 : decode cX10_mostOf 1 = .ok (.ifCond .ne 7, 3) := by decide +kernel
theorem dX10_mostOf_4 : decode cX10_mostOf 4 = .ok (.iconst 4, 1) := by decide +kernel
theorem dX10_mostOf_5 : decode cX10_mostOf 5 = .ok (.goto 50, 3) := by decide +kernel
theorem dX10_mostOf_8 : decode cX10_mostOf 8 = .ok (.iload_n 0, 1) := by decide +kernel
theorem dX10_mostOf_9 : decode cX10_mostOf 9 = .ok (.iconst 1, 1) := by decide +kernel
theorem dX10_mostOf_10 : decode cX10_mostOf 10 = .ok (.if_icmp .eq 8, 3) := by decide +kernel
theorem dX10_mostOf_13 : decode cX10_mostOf 13 = .ok (.iload_n 0, 1) := by decide +kernel
theorem dX10_mostOf_14 : decode cX10_mostOf 14 = .ok (.iconst 5, 1) := by decide +kernel
theorem dX10_mostOf_15 : decode cX10_mostOf 15 = .ok (.if_icmp .ne 7, 3) := by decide +kernel
theorem dX10_mostOf_18 : decode cX10_mostOf 18 = .ok (.iconst 3, 1) := by decide +kernel
theorem dX10_mostOf_19 : decode cX10_mostOf 19 = .ok (.goto 36, 3) := by decide +kernel
theorem dX10_mostOf_22 : decode cX10_mostOf 22 = .ok (.iload_n 0, 1) := by decide +kernel
theorem dX10_mostOf_23 : decode cX10_mostOf 23 = .ok (.iconst 2, 1) := by decide +kernel
theorem dX10_mostOf_24 : decode cX10_mostOf 24 = .ok (.if_icmp .ne 8, 3) := by decide +kernel
theorem dX10_mostOf_27 : decode cX10_mostOf 27 = .ok (.bipush 6, 2) := by decide +kernel
theorem dX10_mostOf_29 : decode cX10_mostOf 29 = .ok (.goto 26, 3) := by decide +kernel
theorem dX10_mostOf_32 : decode cX10_mostOf 32 = .ok (.iload_n 0, 1) := by decide +kernel
theorem dX10_mostOf_33 : decode cX10_mostOf 33 = .ok (.iconst 3, 1) := by decide +kernel
theorem dX10_mostOf_34 : decode cX10_mostOf 34 = .ok (.if_icmp .ne 8, 3) := by decide +kernel
theorem dX10_mostOf_37 : decode cX10_mostOf 37 = .ok (.bipush 20, 2) := by decide +kernel
theorem dX10_mostOf_39 : decode cX10_mostOf 39 = .ok (.goto 16, 3) := by decide +kernel
theorem dX10_mostOf_42 : decode cX10_mostOf 42 = .ok (.iload_n 0, 1) := by decide +kernel
theorem dX10_mostOf_43 : decode cX10_mostOf 43 = .ok (.bipush 8, 2) := by decide +kernel
theorem dX10_mostOf_45 : decode cX10_mostOf 45 = .ok (.if_icmp .ne 8, 3) := by decide +kernel
theorem dX10_mostOf_48 : decode cX10_mostOf 48 = .ok (.bipush 120, 2) := by decide +kernel
theorem dX10_mostOf_50 : decode cX10_mostOf 50 = .ok (.goto 5, 3) := by decide +kernel
theorem dX10_mostOf_53 : decode cX10_mostOf 53 = .ok (.bipush 9, 2) := by decide +kernel
theorem dX10_mostOf_55 : decode cX10_mostOf 55 = .ok (.ireturn, 1) := by decide +kernel
theorem dX10_set_0 : decode cX10_set 0 = .ok (.iload_n 1, 1) := by decide +kernel
theorem dX10_set_1 : decode cX10_set 1 = .ok (.i2l, 1) := by decide +kernel
theorem dX10_set_2 : decode cX10_set 2 = .ok (.lconst 0, 1) := by decide +kernel
theorem dX10_set_3 : decode cX10_set 3 = .ok (.ldc2_w 73, 3) := by decide +kernel
theorem dX10_set_6 : decode cX10_set 6 = .ok (.invokestatic 75, 3) := by decide +kernel
theorem dX10_set_9 : decode cX10_set 9 = .ok (.ifCond .eq 21, 3) := by decide +kernel
theorem dX10_set_12 : decode cX10_set 12 = .ok (.iload_n 2, 1) := by decide +kernel
theorem dX10_set_13 : decode cX10_set 13 = .ok (.i2l, 1) := by decide +kernel
theorem dX10_set_14 : decode cX10_set 14 = .ok (.iload_n 1, 1) := by decide +kernel
theorem dX10_set_15 : decode cX10_set 15 = .ok (.invokestatic 79, 3) := by decide +kernel
theorem dX10_set_18 : decode cX10_set 18 = .ok (.i2l, 1) := by decide +kernel
theorem dX10_set_19 : decode cX10_set 19 = .ok (.iload_n 1, 1) := by decide +kernel
theorem dX10_set_20 : decode cX10_set 20 = .ok (.invokestatic 83, 3) := by decide +kernel
theorem dX10_set_23 : decode cX10_set 23 = .ok (.i2l, 1) := by decide +kernel
theorem dX10_set_24 : decode cX10_set 24 = .ok (.invokestatic 75, 3) := by decide +kernel
theorem dX10_set_27 : decode cX10_set 27 = .ok (.ifCond .ne 5, 3) := by decide +kernel
theorem dX10_set_30 : decode cX10_set 30 = .ok (.iconst (-1), 1) := by decide +kernel
theorem dX10_set_31 : decode cX10_set 31 = .ok (.ireturn, 1) := by decide +kernel
theorem dX10_set_32 : decode cX10_set 32 = .ok (.aload_n 0, 1) := by decide +kernel
theorem dX10_set_33 : decode cX10_set 33 = .ok (.getfield 7, 3) := by decide +kernel
theorem dX10_set_36 : decode cX10_set 36 = .ok (.iload_n 1, 1) := by decide +kernel
theorem dX10_set_37 : decode cX10_set 37 = .ok (.iaload, 1) := by decide +kernel
theorem dX10_set_38 : decode cX10_set 38 = .ok (.istore_n 3, 1) := by decide +kernel
theorem dX10_set_39 : decode cX10_set 39 = .ok (.aload_n 0, 1) := by decide +kernel
theorem dX10_set_40 : decode cX10_set 40 = .ok (.getfield 7, 3) := by decide +kernel
theorem dX10_set_43 : decode cX10_set 43 = .ok (.iload_n 1, 1) := by decide +kernel
theorem dX10_set_44 : decode cX10_set 44 = .ok (.iload_n 2, 1) := by decide +kernel
theorem dX10_set_45 : decode cX10_set 45 = .ok (.iastore, 1) := by decide +kernel
theorem dX10_set_46 : decode cX10_set 46 = .ok (.iload_n 3, 1) := by decide +kernel
theorem dX10_set_47 : decode cX10_set 47 = .ok (.ireturn, 1) := by decide +kernel
theorem dX10_shareOf_0 : decode cX10_shareOf 0 = .ok (.bipush 12, 2) := by decide +kernel
theorem dX10_shareOf_2 : decode cX10_shareOf 2 = .ok (.aload_n 0, 1) := by decide +kernel
theorem dX10_shareOf_3 : decode cX10_shareOf 3 = .ok (.getfield 13, 3) := by decide +kernel
theorem dX10_shareOf_6 : decode cX10_shareOf 6 = .ok (.iconst 0, 1) := by decide +kernel
theorem dX10_shareOf_7 : decode cX10_shareOf 7 = .ok (.iaload, 1) := by decide +kernel
theorem dX10_shareOf_8 : decode cX10_shareOf 8 = .ok (.idiv, 1) := by decide +kernel
theorem dX10_shareOf_9 : decode cX10_shareOf 9 = .ok (.istore 4, 2) := by decide +kernel
theorem dX10_shareOf_11 : decode cX10_shareOf 11 = .ok (.iconst 0, 1) := by decide +kernel
theorem dX10_shareOf_12 : decode cX10_shareOf 12 = .ok (.istore 5, 2) := by decide +kernel
theorem dX10_shareOf_14 : decode cX10_shareOf 14 = .ok (.iconst 0, 1) := by decide +kernel
theorem dX10_shareOf_15 : decode cX10_shareOf 15 = .ok (.istore 6, 2) := by decide +kernel
theorem dX10_shareOf_17 : decode cX10_shareOf 17 = .ok (.iload 6, 2) := by decide +kernel
theorem dX10_shareOf_19 : decode cX10_shareOf 19 = .ok (.iload 4, 2) := by decide +kernel
theorem dX10_shareOf_21 : decode cX10_shareOf 21 = .ok (.if_icmp .ge 54, 3) := by decide +kernel
theorem dX10_shareOf_24 : decode cX10_shareOf 24 = .ok (.iload_n 3, 1) := by decide +kernel
theorem dX10_shareOf_25 : decode cX10_shareOf 25 = .ok (.iload_n 1, 1) := by decide +kernel
theorem dX10_shareOf_26 : decode cX10_shareOf 26 = .ok (.iload 4, 2) := by decide +kernel
theorem dX10_shareOf_28 : decode cX10_shareOf 28 = .ok (.imul, 1) := by decide +kernel
theorem dX10_shareOf_29 : decode cX10_shareOf 29 = .ok (.iadd, 1) := by decide +kernel
theorem dX10_shareOf_30 : decode cX10_shareOf 30 = .ok (.iload 6, 2) := by decide +kernel
theorem dX10_shareOf_32 : decode cX10_shareOf 32 = .ok (.iadd, 1) := by decide +kernel
theorem dX10_shareOf_33 : decode cX10_shareOf 33 = .ok (.bipush 12, 2) := by decide +kernel
theorem dX10_shareOf_35 : decode cX10_shareOf 35 = .ok (.irem, 1) := by decide +kernel
theorem dX10_shareOf_36 : decode cX10_shareOf 36 = .ok (.istore 7, 2) := by decide +kernel
theorem dX10_shareOf_38 : decode cX10_shareOf 38 = .ok (.iload 5, 2) := by decide +kernel
theorem dX10_shareOf_40 : decode cX10_shareOf 40 = .ok (.iload 7, 2) := by decide +kernel
theorem dX10_shareOf_42 : decode cX10_shareOf 42 = .ok (.i2l, 1) := by decide +kernel
theorem dX10_shareOf_43 : decode cX10_shareOf 43 = .ok (.bipush 6, 2) := by decide +kernel
theorem dX10_shareOf_45 : decode cX10_shareOf 45 = .ok (.iload_n 2, 1) := by decide +kernel
theorem dX10_shareOf_46 : decode cX10_shareOf 46 = .ok (.imul, 1) := by decide +kernel
theorem dX10_shareOf_47 : decode cX10_shareOf 47 = .ok (.i2l, 1) := by decide +kernel
theorem dX10_shareOf_48 : decode cX10_shareOf 48 = .ok (.bipush 6, 2) := by decide +kernel
theorem dX10_shareOf_50 : decode cX10_shareOf 50 = .ok (.iload_n 2, 1) := by decide +kernel
theorem dX10_shareOf_51 : decode cX10_shareOf 51 = .ok (.imul, 1) := by decide +kernel
theorem dX10_shareOf_52 : decode cX10_shareOf 52 = .ok (.iconst 2, 1) := by decide +kernel
theorem dX10_shareOf_53 : decode cX10_shareOf 53 = .ok (.iadd, 1) := by decide +kernel
theorem dX10_shareOf_54 : decode cX10_shareOf 54 = .ok (.i2l, 1) := by decide +kernel
theorem dX10_shareOf_55 : decode cX10_shareOf 55 = .ok (.invokestatic 75, 3) := by decide +kernel
theorem dX10_shareOf_58 : decode cX10_shareOf 58 = .ok (.ifCond .eq 7, 3) := by decide +kernel
theorem dX10_shareOf_61 : decode cX10_shareOf 61 = .ok (.iconst 1, 1) := by decide +kernel
theorem dX10_shareOf_62 : decode cX10_shareOf 62 = .ok (.goto 4, 3) := by decide +kernel
theorem dX10_shareOf_65 : decode cX10_shareOf 65 = .ok (.iconst 0, 1) := by decide +kernel
theorem dX10_shareOf_66 : decode cX10_shareOf 66 = .ok (.iadd, 1) := by decide +kernel
theorem dX10_shareOf_67 : decode cX10_shareOf 67 = .ok (.istore 5, 2) := by decide +kernel
theorem dX10_shareOf_69 : decode cX10_shareOf 69 = .ok (.iinc 6 1, 3) := by decide +kernel
theorem dX10_shareOf_72 : decode cX10_shareOf 72 = .ok (.goto (-55), 3) := by decide +kernel
theorem dX10_shareOf_75 : decode cX10_shareOf 75 = .ok (.iload 5, 2) := by decide +kernel
theorem dX10_shareOf_77 : decode cX10_shareOf 77 = .ok (.ireturn, 1) := by decide +kernel
theorem dX10_isOpen_0 : decode cX10_isOpen 0 = .ok (.aload_n 0, 1) := by decide +kernel
theorem dX10_isOpen_1 : decode cX10_isOpen 1 = .ok (.iload_n 1, 1) := by decide +kernel
theorem dX10_isOpen_2 : decode cX10_isOpen 2 = .ok (.iload_n 2, 1) := by decide +kernel
theorem dX10_isOpen_3 : decode cX10_isOpen 3 = .ok (.iload_n 3, 1) := by decide +kernel
theorem dX10_isOpen_4 : decode cX10_isOpen 4 = .ok (.invokevirtual 86, 3) := by decide +kernel
theorem dX10_isOpen_7 : decode cX10_isOpen 7 = .ok (.aload_n 0, 1) := by decide +kernel
theorem dX10_isOpen_8 : decode cX10_isOpen 8 = .ok (.getfield 13, 3) := by decide +kernel
theorem dX10_isOpen_11 : decode cX10_isOpen 11 = .ok (.iconst 1, 1) := by decide +kernel
theorem dX10_isOpen_12 : decode cX10_isOpen 12 = .ok (.iaload, 1) := by decide +kernel
theorem dX10_isOpen_13 : decode cX10_isOpen 13 = .ok (.if_icmp .lt 7, 3) := by decide +kernel
theorem dX10_isOpen_16 : decode cX10_isOpen 16 = .ok (.iconst 1, 1) := by decide +kernel
theorem dX10_isOpen_17 : decode cX10_isOpen 17 = .ok (.goto 4, 3) := by decide +kernel
theorem dX10_isOpen_20 : decode cX10_isOpen 20 = .ok (.iconst 0, 1) := by decide +kernel
theorem dX10_isOpen_21 : decode cX10_isOpen 21 = .ok (.ireturn, 1) := by decide +kernel
theorem dX10_asTold_0 : decode cX10_asTold 0 = .ok (.iconst 0, 1) := by decide +kernel
theorem dX10_asTold_1 : decode cX10_asTold 1 = .ok (.istore_n 1, 1) := by decide +kernel
theorem dX10_asTold_2 : decode cX10_asTold 2 = .ok (.iload_n 1, 1) := by decide +kernel
theorem dX10_asTold_3 : decode cX10_asTold 3 = .ok (.bipush 8, 2) := by decide +kernel
theorem dX10_asTold_5 : decode cX10_asTold 5 = .ok (.if_icmp .gt 21, 3) := by decide +kernel
theorem dX10_asTold_8 : decode cX10_asTold 8 = .ok (.aload_n 0, 1) := by decide +kernel
theorem dX10_asTold_9 : decode cX10_asTold 9 = .ok (.getfield 13, 3) := by decide +kernel
theorem dX10_asTold_12 : decode cX10_asTold 12 = .ok (.iload_n 1, 1) := by decide +kernel
theorem dX10_asTold_13 : decode cX10_asTold 13 = .ok (.aload_n 0, 1) := by decide +kernel
theorem dX10_asTold_14 : decode cX10_asTold 14 = .ok (.getfield 7, 3) := by decide +kernel
theorem dX10_asTold_17 : decode cX10_asTold 17 = .ok (.iload_n 1, 1) := by decide +kernel
theorem dX10_asTold_18 : decode cX10_asTold 18 = .ok (.iaload, 1) := by decide +kernel
theorem dX10_asTold_19 : decode cX10_asTold 19 = .ok (.iastore, 1) := by decide +kernel
theorem dX10_asTold_20 : decode cX10_asTold 20 = .ok (.iinc 1 1, 3) := by decide +kernel
theorem dX10_asTold_23 : decode cX10_asTold 23 = .ok (.goto (-21), 3) := by decide +kernel
theorem dX10_asTold_26 : decode cX10_asTold 26 = .ok (.aload_n 0, 1) := by decide +kernel
theorem dX10_asTold_27 : decode cX10_asTold 27 = .ok (.bipush (-4), 2) := by decide +kernel
theorem dX10_asTold_29 : decode cX10_asTold 29 = .ok (.putfield 90, 3) := by decide +kernel
theorem dX10_asTold_32 : decode cX10_asTold 32 = .ok (.iconst 0, 1) := by decide +kernel
theorem dX10_asTold_33 : decode cX10_asTold 33 = .ok (.istore_n 1, 1) := by decide +kernel
theorem dX10_asTold_34 : decode cX10_asTold 34 = .ok (.iload_n 1, 1) := by decide +kernel
theorem dX10_asTold_35 : decode cX10_asTold 35 = .ok (.aload_n 0, 1) := by decide +kernel
theorem dX10_asTold_36 : decode cX10_asTold 36 = .ok (.getfield 7, 3) := by decide +kernel
theorem dX10_asTold_39 : decode cX10_asTold 39 = .ok (.bipush 9, 2) := by decide +kernel
theorem dX10_asTold_41 : decode cX10_asTold 41 = .ok (.iaload, 1) := by decide +kernel
theorem dX10_asTold_42 : decode cX10_asTold 42 = .ok (.if_icmp .ge 21, 3) := by decide +kernel
theorem dX10_asTold_45 : decode cX10_asTold 45 = .ok (.aload_n 0, 1) := by decide +kernel
theorem dX10_asTold_46 : decode cX10_asTold 46 = .ok (.getfield 16, 3) := by decide +kernel
theorem dX10_asTold_49 : decode cX10_asTold 49 = .ok (.iload_n 1, 1) := by decide +kernel
theorem dX10_asTold_50 : decode cX10_asTold 50 = .ok (.aload_n 0, 1) := by decide +kernel
theorem dX10_asTold_51 : decode cX10_asTold 51 = .ok (.iload_n 1, 1) := by decide +kernel
theorem dX10_asTold_52 : decode cX10_asTold 52 = .ok (.iconst 0, 1) := by decide +kernel
theorem dX10_asTold_53 : decode cX10_asTold 53 = .ok (.invokevirtual 94, 3) := by decide +kernel
theorem dX10_asTold_56 : decode cX10_asTold 56 = .ok (.iastore, 1) := by decide +kernel
theorem dX10_asTold_57 : decode cX10_asTold 57 = .ok (.iinc 1 1, 3) := by decide +kernel
theorem dX10_asTold_60 : decode cX10_asTold 60 = .ok (.goto (-26), 3) := by decide +kernel
theorem dX10_asTold_63 : decode cX10_asTold 63 = .ok (.return_, 1) := by decide +kernel
theorem dX10_isPart_0 : decode cX10_isPart 0 = .ok (.iload_n 1, 1) := by decide +kernel
theorem dX10_isPart_1 : decode cX10_isPart 1 = .ok (.i2l, 1) := by decide +kernel
theorem dX10_isPart_2 : decode cX10_isPart 2 = .ok (.lconst 0, 1) := by decide +kernel
theorem dX10_isPart_3 : decode cX10_isPart 3 = .ok (.aload_n 0, 1) := by decide +kernel
theorem dX10_isPart_4 : decode cX10_isPart 4 = .ok (.getfield 7, 3) := by decide +kernel
theorem dX10_isPart_7 : decode cX10_isPart 7 = .ok (.iconst 0, 1) := by decide +kernel
theorem dX10_isPart_8 : decode cX10_isPart 8 = .ok (.iaload, 1) := by decide +kernel
theorem dX10_isPart_9 : decode cX10_isPart 9 = .ok (.iconst 1, 1) := by decide +kernel
theorem dX10_isPart_10 : decode cX10_isPart 10 = .ok (.isub, 1) := by decide +kernel
theorem dX10_isPart_11 : decode cX10_isPart 11 = .ok (.i2l, 1) := by decide +kernel
theorem dX10_isPart_12 : decode cX10_isPart 12 = .ok (.invokestatic 75, 3) := by decide +kernel
theorem dX10_isPart_15 : decode cX10_isPart 15 = .ok (.ireturn, 1) := by decide +kernel
theorem dX10_share_0 : decode cX10_share 0 = .ok (.aload_n 0, 1) := by decide +kernel
theorem dX10_share_1 : decode cX10_share 1 = .ok (.iload_n 1, 1) := by decide +kernel
theorem dX10_share_2 : decode cX10_share 2 = .ok (.invokevirtual 98, 3) := by decide +kernel
theorem dX10_share_5 : decode cX10_share 5 = .ok (.ifCond .eq 25, 3) := by decide +kernel
theorem dX10_share_8 : decode cX10_share 8 = .ok (.iload_n 2, 1) := by decide +kernel
theorem dX10_share_9 : decode cX10_share 9 = .ok (.i2l, 1) := by decide +kernel
theorem dX10_share_10 : decode cX10_share 10 = .ok (.lconst 0, 1) := by decide +kernel
theorem dX10_share_11 : decode cX10_share 11 = .ok (.lconst 1, 1) := by decide +kernel
theorem dX10_share_12 : decode cX10_share 12 = .ok (.invokestatic 75, 3) := by decide +kernel
theorem dX10_share_15 : decode cX10_share 15 = .ok (.ifCond .eq 15, 3) := by decide +kernel
theorem dX10_share_18 : decode cX10_share 18 = .ok (.iload_n 3, 1) := by decide +kernel
theorem dX10_share_19 : decode cX10_share 19 = .ok (.i2l, 1) := by decide +kernel
theorem dX10_share_20 : decode cX10_share 20 = .ok (.lconst 0, 1) := by decide +kernel
theorem dX10_share_21 : decode cX10_share 21 = .ok (.ldc2_w 102, 3) := by decide +kernel
theorem dX10_share_24 : decode cX10_share 24 = .ok (.invokestatic 75, 3) := by decide +kernel
theorem dX10_share_27 : decode cX10_share 27 = .ok (.ifCond .ne 5, 3) := by decide +kernel
theorem dX10_share_30 : decode cX10_share 30 = .ok (.iconst (-1), 1) := by decide +kernel
theorem dX10_share_31 : decode cX10_share 31 = .ok (.ireturn, 1) := by decide +kernel
theorem dX10_share_32 : decode cX10_share 32 = .ok (.aload_n 0, 1) := by decide +kernel
theorem dX10_share_33 : decode cX10_share 33 = .ok (.invokevirtual 104, 3) := by decide +kernel
theorem dX10_share_36 : decode cX10_share 36 = .ok (.aload_n 0, 1) := by decide +kernel
theorem dX10_share_37 : decode cX10_share 37 = .ok (.iload_n 1, 1) := by decide +kernel
theorem dX10_share_38 : decode cX10_share 38 = .ok (.iload_n 2, 1) := by decide +kernel
theorem dX10_share_39 : decode cX10_share 39 = .ok (.iload_n 3, 1) := by decide +kernel
theorem dX10_share_40 : decode cX10_share 40 = .ok (.invokevirtual 86, 3) := by decide +kernel
theorem dX10_share_43 : decode cX10_share 43 = .ok (.ireturn, 1) := by decide +kernel
theorem dX10_open_0 : decode cX10_open 0 = .ok (.iload_n 1, 1) := by decide +kernel
theorem dX10_open_1 : decode cX10_open 1 = .ok (.i2l, 1) := by decide +kernel
theorem dX10_open_2 : decode cX10_open 2 = .ok (.lconst 0, 1) := by decide +kernel
theorem dX10_open_3 : decode cX10_open 3 = .ok (.lconst 1, 1) := by decide +kernel
theorem dX10_open_4 : decode cX10_open 4 = .ok (.invokestatic 75, 3) := by decide +kernel
theorem dX10_open_7 : decode cX10_open 7 = .ok (.ifCond .eq 15, 3) := by decide +kernel
theorem dX10_open_10 : decode cX10_open 10 = .ok (.iload_n 2, 1) := by decide +kernel
theorem dX10_open_11 : decode cX10_open 11 = .ok (.i2l, 1) := by decide +kernel
theorem dX10_open_12 : decode cX10_open 12 = .ok (.lconst 0, 1) := by decide +kernel
theorem dX10_open_13 : decode cX10_open 13 = .ok (.ldc2_w 102, 3) := by decide +kernel
theorem dX10_open_16 : decode cX10_open 16 = .ok (.invokestatic 75, 3) := by decide +kernel
theorem dX10_open_19 : decode cX10_open 19 = .ok (.ifCond .ne 5, 3) := by decide +kernel
theorem dX10_open_22 : decode cX10_open 22 = .ok (.iconst (-1), 1) := by decide +kernel
theorem dX10_open_23 : decode cX10_open 23 = .ok (.ireturn, 1) := by decide +kernel
theorem dX10_open_24 : decode cX10_open 24 = .ok (.aload_n 0, 1) := by decide +kernel
theorem dX10_open_25 : decode cX10_open 25 = .ok (.invokevirtual 104, 3) := by decide +kernel
theorem dX10_open_28 : decode cX10_open 28 = .ok (.iconst 0, 1) := by decide +kernel
theorem dX10_open_29 : decode cX10_open 29 = .ok (.istore_n 3, 1) := by decide +kernel
theorem dX10_open_30 : decode cX10_open 30 = .ok (.iconst 0, 1) := by decide +kernel
theorem dX10_open_31 : decode cX10_open 31 = .ok (.istore 4, 2) := by decide +kernel
theorem dX10_open_33 : decode cX10_open 33 = .ok (.iload 4, 2) := by decide +kernel
theorem dX10_open_35 : decode cX10_open 35 = .ok (.aload_n 0, 1) := by decide +kernel
theorem dX10_open_36 : decode cX10_open 36 = .ok (.getfield 7, 3) := by decide +kernel
theorem dX10_open_39 : decode cX10_open 39 = .ok (.iconst 0, 1) := by decide +kernel
theorem dX10_open_40 : decode cX10_open 40 = .ok (.iaload, 1) := by decide +kernel
theorem dX10_open_41 : decode cX10_open 41 = .ok (.if_icmp .ge 31, 3) := by decide +kernel
theorem dX10_open_44 : decode cX10_open 44 = .ok (.iload_n 3, 1) := by decide +kernel
theorem dX10_open_45 : decode cX10_open 45 = .ok (.aload_n 0, 1) := by decide +kernel
theorem dX10_open_46 : decode cX10_open 46 = .ok (.iload 4, 2) := by decide +kernel
theorem dX10_open_48 : decode cX10_open 48 = .ok (.iload_n 1, 1) := by decide +kernel
theorem dX10_open_49 : decode cX10_open 49 = .ok (.iload_n 2, 1) := by decide +kernel
theorem dX10_open_50 : decode cX10_open 50 = .ok (.invokevirtual 107, 3) := by decide +kernel
theorem dX10_open_53 : decode cX10_open 53 = .ok (.ifCond .eq 10, 3) := by decide +kernel
theorem dX10_open_56 : decode cX10_open 56 = .ok (.iconst 1, 1) := by decide +kernel
theorem dX10_open_57 : decode cX10_open 57 = .ok (.iload 4, 2) := by decide +kernel
theorem dX10_open_59 : decode cX10_open 59 = .ok (.ishl, 1) := by decide +kernel
theorem dX10_open_60 : decode cX10_open 60 = .ok (.goto 4, 3) := by decide +kernel
theorem dX10_open_63 : decode cX10_open 63 = .ok (.iconst 0, 1) := by decide +kernel
theorem dX10_open_64 : decode cX10_open 64 = .ok (.ior, 1) := by decide +kernel
theorem dX10_open_65 : decode cX10_open 65 = .ok (.istore_n 3, 1) := by decide +kernel
theorem dX10_open_66 : decode cX10_open 66 = .ok (.iinc 4 1, 3) := by decide +kernel
theorem dX10_open_69 : decode cX10_open 69 = .ok (.goto (-36), 3) := by decide +kernel
theorem dX10_open_72 : decode cX10_open 72 = .ok (.iload_n 3, 1) := by decide +kernel
theorem dX10_open_73 : decode cX10_open 73 = .ok (.ireturn, 1) := by decide +kernel
theorem dX10_of_0 : decode cX10_of 0 = .ok (.aload_n 0, 1) := by decide +kernel
theorem dX10_of_1 : decode cX10_of 1 = .ok (.getfield 7, 3) := by decide +kernel
theorem dX10_of_4 : decode cX10_of 4 = .ok (.bipush 10, 2) := by decide +kernel
theorem dX10_of_6 : decode cX10_of 6 = .ok (.iconst 3, 1) := by decide +kernel
theorem dX10_of_7 : decode cX10_of 7 = .ok (.iload_n 1, 1) := by decide +kernel
theorem dX10_of_8 : decode cX10_of 8 = .ok (.imul, 1) := by decide +kernel
theorem dX10_of_9 : decode cX10_of 9 = .ok (.iadd, 1) := by decide +kernel
theorem dX10_of_10 : decode cX10_of 10 = .ok (.iload_n 2, 1) := by decide +kernel
theorem dX10_of_11 : decode cX10_of 11 = .ok (.iadd, 1) := by decide +kernel
theorem dX10_of_12 : decode cX10_of 12 = .ok (.iaload, 1) := by decide +kernel
theorem dX10_of_13 : decode cX10_of 13 = .ok (.ireturn, 1) := by decide +kernel
theorem dX10_isPerson_0 : decode cX10_isPerson 0 = .ok (.iload_n 1, 1) := by decide +kernel
theorem dX10_isPerson_1 : decode cX10_isPerson 1 = .ok (.i2l, 1) := by decide +kernel
theorem dX10_isPerson_2 : decode cX10_isPerson 2 = .ok (.lconst 0, 1) := by decide +kernel
theorem dX10_isPerson_3 : decode cX10_isPerson 3 = .ok (.aload_n 0, 1) := by decide +kernel
theorem dX10_isPerson_4 : decode cX10_isPerson 4 = .ok (.getfield 7, 3) := by decide +kernel
theorem dX10_isPerson_7 : decode cX10_isPerson 7 = .ok (.bipush 9, 2) := by decide +kernel
theorem dX10_isPerson_9 : decode cX10_isPerson 9 = .ok (.iaload, 1) := by decide +kernel
theorem dX10_isPerson_10 : decode cX10_isPerson 10 = .ok (.iconst 1, 1) := by decide +kernel
theorem dX10_isPerson_11 : decode cX10_isPerson 11 = .ok (.isub, 1) := by decide +kernel
theorem dX10_isPerson_12 : decode cX10_isPerson 12 = .ok (.i2l, 1) := by decide +kernel
theorem dX10_isPerson_13 : decode cX10_isPerson 13 = .ok (.invokestatic 75, 3) := by decide +kernel
theorem dX10_isPerson_16 : decode cX10_isPerson 16 = .ok (.ireturn, 1) := by decide +kernel
theorem dX10_sizeOf_0 : decode cX10_sizeOf 0 = .ok (.iload_n 0, 1) := by decide +kernel
theorem dX10_sizeOf_1 : decode cX10_sizeOf 1 = .ok (.iconst 1, 1) := by decide +kernel
theorem dX10_sizeOf_2 : decode cX10_sizeOf 2 = .ok (.if_icmp .ne 7, 3) := by decide +kernel
theorem dX10_sizeOf_5 : decode cX10_sizeOf 5 = .ok (.iconst 2, 1) := by decide +kernel
theorem dX10_sizeOf_6 : decode cX10_sizeOf 6 = .ok (.goto 13, 3) := by decide +kernel
theorem dX10_sizeOf_9 : decode cX10_sizeOf 9 = .ok (.iload_n 0, 1) := by decide +kernel
theorem dX10_sizeOf_10 : decode cX10_sizeOf 10 = .ok (.iconst 2, 1) := by decide +kernel
theorem dX10_sizeOf_11 : decode cX10_sizeOf 11 = .ok (.if_icmp .ne 7, 3) := by decide +kernel
theorem dX10_sizeOf_14 : decode cX10_sizeOf 14 = .ok (.iconst 3, 1) := by decide +kernel
theorem dX10_sizeOf_15 : decode cX10_sizeOf 15 = .ok (.goto 4, 3) := by decide +kernel
theorem dX10_sizeOf_18 : decode cX10_sizeOf 18 = .ok (.iconst 1, 1) := by decide +kernel
theorem dX10_sizeOf_19 : decode cX10_sizeOf 19 = .ok (.ireturn, 1) := by decide +kernel
theorem dX10_pushOf_0 : decode cX10_pushOf 0 = .ok (.iload_n 0, 1) := by decide +kernel
theorem dX10_pushOf_1 : decode cX10_pushOf 1 = .ok (.iconst 1, 1) := by decide +kernel
theorem dX10_pushOf_2 : decode cX10_pushOf 2 = .ok (.if_icmp .eq 8, 3) := by decide +kernel
theorem dX10_pushOf_5 : decode cX10_pushOf 5 = .ok (.iload_n 0, 1) := by decide +kernel
theorem dX10_pushOf_6 : decode cX10_pushOf 6 = .ok (.iconst 2, 1) := by decide +kernel
theorem dX10_pushOf_7 : decode cX10_pushOf 7 = .ok (.if_icmp .ne 7, 3) := by decide +kernel
theorem dX10_pushOf_10 : decode cX10_pushOf 10 = .ok (.iconst 1, 1) := by decide +kernel
theorem dX10_pushOf_11 : decode cX10_pushOf 11 = .ok (.goto 22, 3) := by decide +kernel
theorem dX10_pushOf_14 : decode cX10_pushOf 14 = .ok (.iload_n 0, 1) := by decide +kernel
theorem dX10_pushOf_15 : decode cX10_pushOf 15 = .ok (.iconst 3, 1) := by decide +kernel
theorem dX10_pushOf_16 : decode cX10_pushOf 16 = .ok (.if_icmp .ne 7, 3) := by decide +kernel
theorem dX10_pushOf_19 : decode cX10_pushOf 19 = .ok (.iconst 0, 1) := by decide +kernel
theorem dX10_pushOf_20 : decode cX10_pushOf 20 = .ok (.goto 13, 3) := by decide +kernel
theorem dX10_pushOf_23 : decode cX10_pushOf 23 = .ok (.iload_n 0, 1) := by decide +kernel
theorem dX10_pushOf_24 : decode cX10_pushOf 24 = .ok (.iconst 4, 1) := by decide +kernel
theorem dX10_pushOf_25 : decode cX10_pushOf 25 = .ok (.if_icmp .ne 7, 3) := by decide +kernel
theorem dX10_pushOf_28 : decode cX10_pushOf 28 = .ok (.iconst 4, 1) := by decide +kernel
theorem dX10_pushOf_29 : decode cX10_pushOf 29 = .ok (.goto 4, 3) := by decide +kernel
theorem dX10_pushOf_32 : decode cX10_pushOf 32 = .ok (.iconst 2, 1) := by decide +kernel
theorem dX10_pushOf_33 : decode cX10_pushOf 33 = .ok (.ireturn, 1) := by decide +kernel
theorem dX10_add_0 : decode cX10_add 0 = .ok (.bipush 10, 2) := by decide +kernel
theorem dX10_add_2 : decode cX10_add 2 = .ok (.iconst 3, 1) := by decide +kernel
theorem dX10_add_3 : decode cX10_add 3 = .ok (.aload_n 0, 1) := by decide +kernel
theorem dX10_add_4 : decode cX10_add 4 = .ok (.getfield 7, 3) := by decide +kernel
theorem dX10_add_7 : decode cX10_add 7 = .ok (.bipush 9, 2) := by decide +kernel
theorem dX10_add_9 : decode cX10_add 9 = .ok (.iaload, 1) := by decide +kernel
theorem dX10_add_10 : decode cX10_add 10 = .ok (.imul, 1) := by decide +kernel
theorem dX10_add_11 : decode cX10_add 11 = .ok (.iadd, 1) := by decide +kernel
theorem dX10_add_12 : decode cX10_add 12 = .ok (.istore 4, 2) := by decide +kernel
theorem dX10_add_14 : decode cX10_add 14 = .ok (.aload_n 0, 1) := by decide +kernel
theorem dX10_add_15 : decode cX10_add 15 = .ok (.getfield 7, 3) := by decide +kernel
theorem dX10_add_18 : decode cX10_add 18 = .ok (.iload 4, 2) := by decide +kernel
theorem dX10_add_20 : decode cX10_add 20 = .ok (.iload_n 1, 1) := by decide +kernel
theorem dX10_add_21 : decode cX10_add 21 = .ok (.iastore, 1) := by decide +kernel
theorem dX10_add_22 : decode cX10_add 22 = .ok (.aload_n 0, 1) := by decide +kernel
theorem dX10_add_23 : decode cX10_add 23 = .ok (.getfield 7, 3) := by decide +kernel
theorem dX10_add_26 : decode cX10_add 26 = .ok (.iload 4, 2) := by decide +kernel
theorem dX10_add_28 : decode cX10_add 28 = .ok (.iconst 1, 1) := by decide +kernel
theorem dX10_add_29 : decode cX10_add 29 = .ok (.iadd, 1) := by decide +kernel
theorem dX10_add_30 : decode cX10_add 30 = .ok (.iload_n 2, 1) := by decide +kernel
theorem dX10_add_31 : decode cX10_add 31 = .ok (.iastore, 1) := by decide +kernel
theorem dX10_add_32 : decode cX10_add 32 = .ok (.aload_n 0, 1) := by decide +kernel
theorem dX10_add_33 : decode cX10_add 33 = .ok (.getfield 7, 3) := by decide +kernel
theorem dX10_add_36 : decode cX10_add 36 = .ok (.iload 4, 2) := by decide +kernel
theorem dX10_add_38 : decode cX10_add 38 = .ok (.iconst 2, 1) := by decide +kernel
theorem dX10_add_39 : decode cX10_add 39 = .ok (.iadd, 1) := by decide +kernel
theorem dX10_add_40 : decode cX10_add 40 = .ok (.iload_n 3, 1) := by decide +kernel
theorem dX10_add_41 : decode cX10_add 41 = .ok (.iastore, 1) := by decide +kernel
theorem dX10_add_42 : decode cX10_add 42 = .ok (.aload_n 0, 1) := by decide +kernel
theorem dX10_add_43 : decode cX10_add 43 = .ok (.getfield 7, 3) := by decide +kernel
theorem dX10_add_46 : decode cX10_add 46 = .ok (.bipush 9, 2) := by decide +kernel
theorem dX10_add_48 : decode cX10_add 48 = .ok (.dup2, 1) := by decide +kernel
theorem dX10_add_49 : decode cX10_add 49 = .ok (.iaload, 1) := by decide +kernel
theorem dX10_add_50 : decode cX10_add 50 = .ok (.iconst 1, 1) := by decide +kernel
theorem dX10_add_51 : decode cX10_add 51 = .ok (.iadd, 1) := by decide +kernel
theorem dX10_add_52 : decode cX10_add 52 = .ok (.iastore, 1) := by decide +kernel
theorem dX10_add_53 : decode cX10_add 53 = .ok (.return_, 1) := by decide +kernel
theorem dX10_person_0 : decode cX10_person 0 = .ok (.iload_n 1, 1) := by decide +kernel
theorem dX10_person_1 : decode cX10_person 1 = .ok (.i2l, 1) := by decide +kernel
theorem dX10_person_2 : decode cX10_person 2 = .ok (.lconst 0, 1) := by decide +kernel
theorem dX10_person_3 : decode cX10_person 3 = .ok (.ldc2_w 111, 3) := by decide +kernel
theorem dX10_person_6 : decode cX10_person 6 = .ok (.invokestatic 75, 3) := by decide +kernel
theorem dX10_person_9 : decode cX10_person 9 = .ok (.ifCond .eq 25, 3) := by decide +kernel
theorem dX10_person_12 : decode cX10_person 12 = .ok (.iload_n 2, 1) := by decide +kernel
theorem dX10_person_13 : decode cX10_person 13 = .ok (.i2l, 1) := by decide +kernel
theorem dX10_person_14 : decode cX10_person 14 = .ok (.lconst 0, 1) := by decide +kernel
theorem dX10_person_15 : decode cX10_person 15 = .ok (.lconst 1, 1) := by decide +kernel
theorem dX10_person_16 : decode cX10_person 16 = .ok (.invokestatic 75, 3) := by decide +kernel
theorem dX10_person_19 : decode cX10_person 19 = .ok (.ifCond .eq 15, 3) := by decide +kernel
theorem dX10_person_22 : decode cX10_person 22 = .ok (.iload_n 3, 1) := by decide +kernel
theorem dX10_person_23 : decode cX10_person 23 = .ok (.i2l, 1) := by decide +kernel
theorem dX10_person_24 : decode cX10_person 24 = .ok (.lconst 0, 1) := by decide +kernel
theorem dX10_person_25 : decode cX10_person 25 = .ok (.ldc2_w 113, 3) := by decide +kernel
theorem dX10_person_28 : decode cX10_person 28 = .ok (.invokestatic 75, 3) := by decide +kernel
theorem dX10_person_31 : decode cX10_person 31 = .ok (.ifCond .ne 5, 3) := by decide +kernel
theorem dX10_person_34 : decode cX10_person 34 = .ok (.iconst (-1), 1) := by decide +kernel
theorem dX10_person_35 : decode cX10_person 35 = .ok (.ireturn, 1) := by decide +kernel
theorem dX10_person_36 : decode cX10_person 36 = .ok (.aload_n 0, 1) := by decide +kernel
theorem dX10_person_37 : decode cX10_person 37 = .ok (.getfield 7, 3) := by decide +kernel
theorem dX10_person_40 : decode cX10_person 40 = .ok (.bipush 9, 2) := by decide +kernel
theorem dX10_person_42 : decode cX10_person 42 = .ok (.iaload, 1) := by decide +kernel
theorem dX10_person_43 : decode cX10_person 43 = .ok (.bipush 12, 2) := by decide +kernel
theorem dX10_person_45 : decode cX10_person 45 = .ok (.if_icmp .ne 6, 3) := by decide +kernel
theorem dX10_person_48 : decode cX10_person 48 = .ok (.bipush (-3), 2) := by decide +kernel
theorem dX10_person_50 : decode cX10_person 50 = .ok (.ireturn, 1) := by decide +kernel
theorem dX10_person_51 : decode cX10_person 51 = .ok (.aload_n 0, 1) := by decide +kernel
theorem dX10_person_52 : decode cX10_person 52 = .ok (.iload_n 1, 1) := by decide +kernel
theorem dX10_person_53 : decode cX10_person 53 = .ok (.iload_n 2, 1) := by decide +kernel
theorem dX10_person_54 : decode cX10_person 54 = .ok (.iload_n 3, 1) := by decide +kernel
theorem dX10_person_55 : decode cX10_person 55 = .ok (.invokevirtual 115, 3) := by decide +kernel
theorem dX10_person_58 : decode cX10_person 58 = .ok (.aload_n 0, 1) := by decide +kernel
theorem dX10_person_59 : decode cX10_person 59 = .ok (.getfield 7, 3) := by decide +kernel
theorem dX10_person_62 : decode cX10_person 62 = .ok (.bipush 9, 2) := by decide +kernel
theorem dX10_person_64 : decode cX10_person 64 = .ok (.iaload, 1) := by decide +kernel
theorem dX10_person_65 : decode cX10_person 65 = .ok (.iconst 1, 1) := by decide +kernel
theorem dX10_person_66 : decode cX10_person 66 = .ok (.isub, 1) := by decide +kernel
theorem dX10_person_67 : decode cX10_person 67 = .ok (.ireturn, 1) := by decide +kernel
theorem dX10_told_0 : decode cX10_told 0 = .ok (.aload_n 0, 1) := by decide +kernel
theorem dX10_told_1 : decode cX10_told 1 = .ok (.iload_n 1, 1) := by decide +kernel
theorem dX10_told_2 : decode cX10_told 2 = .ok (.invokevirtual 119, 3) := by decide +kernel
theorem dX10_told_5 : decode cX10_told 5 = .ok (.ifCond .eq 15, 3) := by decide +kernel
theorem dX10_told_8 : decode cX10_told 8 = .ok (.iload_n 2, 1) := by decide +kernel
theorem dX10_told_9 : decode cX10_told 9 = .ok (.i2l, 1) := by decide +kernel
theorem dX10_told_10 : decode cX10_told 10 = .ok (.lconst 0, 1) := by decide +kernel
theorem dX10_told_11 : decode cX10_told 11 = .ok (.ldc2_w 122, 3) := by decide +kernel
theorem dX10_told_14 : decode cX10_told 14 = .ok (.invokestatic 75, 3) := by decide +kernel
theorem dX10_told_17 : decode cX10_told 17 = .ok (.ifCond .ne 5, 3) := by decide +kernel
theorem dX10_told_20 : decode cX10_told 20 = .ok (.iconst (-1), 1) := by decide +kernel
theorem dX10_told_21 : decode cX10_told 21 = .ok (.ireturn, 1) := by decide +kernel
theorem dX10_told_22 : decode cX10_told 22 = .ok (.iload_n 2, 1) := by decide +kernel
theorem dX10_told_23 : decode cX10_told 23 = .ok (.iconst 3, 1) := by decide +kernel
theorem dX10_told_24 : decode cX10_told 24 = .ok (.if_icmp .ge 12, 3) := by decide +kernel
theorem dX10_told_27 : decode cX10_told 27 = .ok (.aload_n 0, 1) := by decide +kernel
theorem dX10_told_28 : decode cX10_told 28 = .ok (.iload_n 1, 1) := by decide +kernel
theorem dX10_told_29 : decode cX10_told 29 = .ok (.iload_n 2, 1) := by decide +kernel
theorem dX10_told_30 : decode cX10_told 30 = .ok (.invokevirtual 94, 3) := by decide +kernel
theorem dX10_told_33 : decode cX10_told 33 = .ok (.goto 29, 3) := by decide +kernel
theorem dX10_told_36 : decode cX10_told 36 = .ok (.iload_n 2, 1) := by decide +kernel
theorem dX10_told_37 : decode cX10_told 37 = .ok (.iconst 3, 1) := by decide +kernel
theorem dX10_told_38 : decode cX10_told 38 = .ok (.if_icmp .ne 15, 3) := by decide +kernel
theorem dX10_told_41 : decode cX10_told 41 = .ok (.aload_n 0, 1) := by decide +kernel
theorem dX10_told_42 : decode cX10_told 42 = .ok (.iload_n 1, 1) := by decide +kernel
theorem dX10_told_43 : decode cX10_told 43 = .ok (.iconst 2, 1) := by decide +kernel
theorem dX10_told_44 : decode cX10_told 44 = .ok (.invokevirtual 94, 3) := by decide +kernel
theorem dX10_told_47 : decode cX10_told 47 = .ok (.invokestatic 124, 3) := by decide +kernel
theorem dX10_told_50 : decode cX10_told 50 = .ok (.goto 12, 3) := by decide +kernel
theorem dX10_told_53 : decode cX10_told 53 = .ok (.aload_n 0, 1) := by decide +kernel
theorem dX10_told_54 : decode cX10_told 54 = .ok (.iload_n 1, 1) := by decide +kernel
theorem dX10_told_55 : decode cX10_told 55 = .ok (.iconst 2, 1) := by decide +kernel
theorem dX10_told_56 : decode cX10_told 56 = .ok (.invokevirtual 94, 3) := by decide +kernel
theorem dX10_told_59 : decode cX10_told 59 = .ok (.invokestatic 127, 3) := by decide +kernel
theorem dX10_told_62 : decode cX10_told 62 = .ok (.ireturn, 1) := by decide +kernel
theorem dX10_delay_0 : decode cX10_delay 0 = .ok (.aload_n 0, 1) := by decide +kernel
theorem dX10_delay_1 : decode cX10_delay 1 = .ok (.iload_n 1, 1) := by decide +kernel
theorem dX10_delay_2 : decode cX10_delay 2 = .ok (.invokevirtual 119, 3) := by decide +kernel
theorem dX10_delay_5 : decode cX10_delay 5 = .ok (.ifCond .eq 15, 3) := by decide +kernel
theorem dX10_delay_8 : decode cX10_delay 8 = .ok (.iload_n 2, 1) := by decide +kernel
theorem dX10_delay_9 : decode cX10_delay 9 = .ok (.i2l, 1) := by decide +kernel
theorem dX10_delay_10 : decode cX10_delay 10 = .ok (.lconst 0, 1) := by decide +kernel
theorem dX10_delay_11 : decode cX10_delay 11 = .ok (.ldc2_w 111, 3) := by decide +kernel
theorem dX10_delay_14 : decode cX10_delay 14 = .ok (.invokestatic 75, 3) := by decide +kernel
theorem dX10_delay_17 : decode cX10_delay 17 = .ok (.ifCond .ne 5, 3) := by decide +kernel
theorem dX10_delay_20 : decode cX10_delay 20 = .ok (.iconst (-1), 1) := by decide +kernel
theorem dX10_delay_21 : decode cX10_delay 21 = .ok (.ireturn, 1) := by decide +kernel
theorem dX10_delay_22 : decode cX10_delay 22 = .ok (.aload_n 0, 1) := by decide +kernel
theorem dX10_delay_23 : decode cX10_delay 23 = .ok (.iload_n 1, 1) := by decide +kernel
theorem dX10_delay_24 : decode cX10_delay 24 = .ok (.iconst 0, 1) := by decide +kernel
theorem dX10_delay_25 : decode cX10_delay 25 = .ok (.invokevirtual 94, 3) := by decide +kernel
theorem dX10_delay_28 : decode cX10_delay 28 = .ok (.istore_n 3, 1) := by decide +kernel
theorem dX10_delay_29 : decode cX10_delay 29 = .ok (.aload_n 0, 1) := by decide +kernel
theorem dX10_delay_30 : decode cX10_delay 30 = .ok (.getfield 7, 3) := by decide +kernel
theorem dX10_delay_33 : decode cX10_delay 33 = .ok (.bipush 10, 2) := by decide +kernel
theorem dX10_delay_35 : decode cX10_delay 35 = .ok (.iconst 3, 1) := by decide +kernel
theorem dX10_delay_36 : decode cX10_delay 36 = .ok (.iload_n 1, 1) := by decide +kernel
theorem dX10_delay_37 : decode cX10_delay 37 = .ok (.imul, 1) := by decide +kernel
theorem dX10_delay_38 : decode cX10_delay 38 = .ok (.iadd, 1) := by decide +kernel
theorem dX10_delay_39 : decode cX10_delay 39 = .ok (.iload_n 2, 1) := by decide +kernel
theorem dX10_delay_40 : decode cX10_delay 40 = .ok (.iastore, 1) := by decide +kernel
theorem dX10_delay_41 : decode cX10_delay 41 = .ok (.iload_n 3, 1) := by decide +kernel
theorem dX10_delay_42 : decode cX10_delay 42 = .ok (.ireturn, 1) := by decide +kernel
theorem dX10_clear_0 : decode cX10_clear 0 = .ok (.aload_n 0, 1) := by decide +kernel
theorem dX10_clear_1 : decode cX10_clear 1 = .ok (.getfield 7, 3) := by decide +kernel
theorem dX10_clear_4 : decode cX10_clear 4 = .ok (.bipush 9, 2) := by decide +kernel
theorem dX10_clear_6 : decode cX10_clear 6 = .ok (.iaload, 1) := by decide +kernel
theorem dX10_clear_7 : decode cX10_clear 7 = .ok (.istore_n 1, 1) := by decide +kernel
theorem dX10_clear_8 : decode cX10_clear 8 = .ok (.aload_n 0, 1) := by decide +kernel
theorem dX10_clear_9 : decode cX10_clear 9 = .ok (.getfield 7, 3) := by decide +kernel
theorem dX10_clear_12 : decode cX10_clear 12 = .ok (.bipush 9, 2) := by decide +kernel
theorem dX10_clear_14 : decode cX10_clear 14 = .ok (.iconst 0, 1) := by decide +kernel
theorem dX10_clear_15 : decode cX10_clear 15 = .ok (.iastore, 1) := by decide +kernel
theorem dX10_clear_16 : decode cX10_clear 16 = .ok (.iload_n 1, 1) := by decide +kernel
theorem dX10_clear_17 : decode cX10_clear 17 = .ok (.ireturn, 1) := by decide +kernel
theorem dX10_type_0 : decode cX10_type 0 = .ok (.iload_n 3, 1) := by decide +kernel
theorem dX10_type_1 : decode cX10_type 1 = .ok (.i2l, 1) := by decide +kernel
theorem dX10_type_2 : decode cX10_type 2 = .ok (.lconst 1, 1) := by decide +kernel
theorem dX10_type_3 : decode cX10_type 3 = .ok (.ldc2_w 73, 3) := by decide +kernel
theorem dX10_type_6 : decode cX10_type 6 = .ok (.invokestatic 75, 3) := by decide +kernel
theorem dX10_type_9 : decode cX10_type 9 = .ok (.ifCond .ne 5, 3) := by decide +kernel
theorem dX10_type_12 : decode cX10_type 12 = .ok (.iconst (-1), 1) := by decide +kernel
theorem dX10_type_13 : decode cX10_type 13 = .ok (.ireturn, 1) := by decide +kernel
theorem dX10_type_14 : decode cX10_type 14 = .ok (.iload_n 3, 1) := by decide +kernel
theorem dX10_type_15 : decode cX10_type 15 = .ok (.iconst 1, 1) := by decide +kernel
theorem dX10_type_16 : decode cX10_type 16 = .ok (.isub, 1) := by decide +kernel
theorem dX10_type_17 : decode cX10_type 17 = .ok (.istore 4, 2) := by decide +kernel
theorem dX10_type_19 : decode cX10_type 19 = .ok (.iload 4, 2) := by decide +kernel
theorem dX10_type_21 : decode cX10_type 21 = .ok (.ifCond .lt 34, 3) := by decide +kernel
theorem dX10_type_24 : decode cX10_type 24 = .ok (.lload_n 1, 1) := by decide +kernel
theorem dX10_type_25 : decode cX10_type 25 = .ok (.bipush 8, 2) := by decide +kernel
theorem dX10_type_27 : decode cX10_type 27 = .ok (.iload 4, 2) := by decide +kernel
theorem dX10_type_29 : decode cX10_type 29 = .ok (.imul, 1) := by decide +kernel
theorem dX10_type_30 : decode cX10_type 30 = .ok (.lshr, 1) := by decide +kernel
theorem dX10_type_31 : decode cX10_type 31 = .ok (.ldc2_w 130, 3) := by decide +kernel
theorem dX10_type_34 : decode cX10_type 34 = .ok (.land, 1) := by decide +kernel
theorem dX10_type_35 : decode cX10_type 35 = .ok (.ldc2_w 132, 3) := by decide +kernel
theorem dX10_type_38 : decode cX10_type 38 = .ok (.ldc2_w 134, 3) := by decide +kernel
theorem dX10_type_41 : decode cX10_type 41 = .ok (.invokestatic 75, 3) := by decide +kernel
theorem dX10_type_44 : decode cX10_type 44 = .ok (.ifCond .ne 5, 3) := by decide +kernel
theorem dX10_type_47 : decode cX10_type 47 = .ok (.iconst (-1), 1) := by decide +kernel
theorem dX10_type_48 : decode cX10_type 48 = .ok (.ireturn, 1) := by decide +kernel
theorem dX10_type_49 : decode cX10_type 49 = .ok (.iinc 4 (-1), 3) := by decide +kernel
theorem dX10_type_52 : decode cX10_type 52 = .ok (.goto (-33), 3) := by decide +kernel
theorem dX10_type_55 : decode cX10_type 55 = .ok (.aload_n 0, 1) := by decide +kernel
theorem dX10_type_56 : decode cX10_type 56 = .ok (.getfield 136, 3) := by decide +kernel
theorem dX10_type_59 : decode cX10_type 59 = .ok (.iload_n 3, 1) := by decide +kernel
theorem dX10_type_60 : decode cX10_type 60 = .ok (.iadd, 1) := by decide +kernel
theorem dX10_type_61 : decode cX10_type 61 = .ok (.bipush 80, 2) := by decide +kernel
theorem dX10_type_63 : decode cX10_type 63 = .ok (.if_icmp .le 6, 3) := by decide +kernel
theorem dX10_type_66 : decode cX10_type 66 = .ok (.bipush (-3), 2) := by decide +kernel
theorem dX10_type_68 : decode cX10_type 68 = .ok (.ireturn, 1) := by decide +kernel
theorem dX10_type_69 : decode cX10_type 69 = .ok (.iload_n 3, 1) := by decide +kernel
theorem dX10_type_70 : decode cX10_type 70 = .ok (.iconst 1, 1) := by decide +kernel
theorem dX10_type_71 : decode cX10_type 71 = .ok (.isub, 1) := by decide +kernel
theorem dX10_type_72 : decode cX10_type 72 = .ok (.istore 4, 2) := by decide +kernel
theorem dX10_type_74 : decode cX10_type 74 = .ok (.iload 4, 2) := by decide +kernel
theorem dX10_type_76 : decode cX10_type 76 = .ok (.ifCond .lt 40, 3) := by decide +kernel
theorem dX10_type_79 : decode cX10_type 79 = .ok (.aload_n 0, 1) := by decide +kernel
theorem dX10_type_80 : decode cX10_type 80 = .ok (.getfield 19, 3) := by decide +kernel
theorem dX10_type_83 : decode cX10_type 83 = .ok (.aload_n 0, 1) := by decide +kernel
theorem dX10_type_84 : decode cX10_type 84 = .ok (.getfield 136, 3) := by decide +kernel
theorem dX10_type_87 : decode cX10_type 87 = .ok (.lload_n 1, 1) := by decide +kernel
theorem dX10_type_88 : decode cX10_type 88 = .ok (.bipush 8, 2) := by decide +kernel
theorem dX10_type_90 : decode cX10_type 90 = .ok (.iload 4, 2) := by decide +kernel
theorem dX10_type_92 : decode cX10_type 92 = .ok (.imul, 1) := by decide +kernel
theorem dX10_type_93 : decode cX10_type 93 = .ok (.lshr, 1) := by decide +kernel
theorem dX10_type_94 : decode cX10_type 94 = .ok (.ldc2_w 130, 3) := by decide +kernel
theorem dX10_type_97 : decode cX10_type 97 = .ok (.land, 1) := by decide +kernel
theorem dX10_type_98 : decode cX10_type 98 = .ok (.l2i, 1) := by decide +kernel
theorem dX10_type_99 : decode cX10_type 99 = .ok (.iastore, 1) := by decide +kernel
theorem dX10_type_100 : decode cX10_type 100 = .ok (.aload_n 0, 1) := by decide +kernel
theorem dX10_type_101 : decode cX10_type 101 = .ok (.dup, 1) := by decide +kernel
theorem dX10_type_102 : decode cX10_type 102 = .ok (.getfield 136, 3) := by decide +kernel
theorem dX10_type_105 : decode cX10_type 105 = .ok (.iconst 1, 1) := by decide +kernel
theorem dX10_type_106 : decode cX10_type 106 = .ok (.iadd, 1) := by decide +kernel
theorem dX10_type_107 : decode cX10_type 107 = .ok (.putfield 136, 3) := by decide +kernel
theorem dX10_type_110 : decode cX10_type 110 = .ok (.iinc 4 (-1), 3) := by decide +kernel
theorem dX10_type_113 : decode cX10_type 113 = .ok (.goto (-39), 3) := by decide +kernel
theorem dX10_type_116 : decode cX10_type 116 = .ok (.aload_n 0, 1) := by decide +kernel
theorem dX10_type_117 : decode cX10_type 117 = .ok (.getfield 136, 3) := by decide +kernel
theorem dX10_type_120 : decode cX10_type 120 = .ok (.ireturn, 1) := by decide +kernel
theorem dX10_nextByte_0 : decode cX10_nextByte 0 = .ok (.aload_n 0, 1) := by decide +kernel
theorem dX10_nextByte_1 : decode cX10_nextByte 1 = .ok (.getfield 139, 3) := by decide +kernel
theorem dX10_nextByte_4 : decode cX10_nextByte 4 = .ok (.aload_n 0, 1) := by decide +kernel
theorem dX10_nextByte_5 : decode cX10_nextByte 5 = .ok (.getfield 136, 3) := by decide +kernel
theorem dX10_nextByte_8 : decode cX10_nextByte 8 = .ok (.if_icmp .ge 30, 3) := by decide +kernel
theorem dX10_nextByte_11 : decode cX10_nextByte 11 = .ok (.aload_n 0, 1) := by decide +kernel
theorem dX10_nextByte_12 : decode cX10_nextByte 12 = .ok (.getfield 19, 3) := by decide +kernel
theorem dX10_nextByte_15 : decode cX10_nextByte 15 = .ok (.aload_n 0, 1) := by decide +kernel
theorem dX10_nextByte_16 : decode cX10_nextByte 16 = .ok (.getfield 139, 3) := by decide +kernel
theorem dX10_nextByte_19 : decode cX10_nextByte 19 = .ok (.iaload, 1) := by decide +kernel
theorem dX10_nextByte_20 : decode cX10_nextByte 20 = .ok (.bipush 32, 2) := by decide +kernel
theorem dX10_nextByte_22 : decode cX10_nextByte 22 = .ok (.if_icmp .ne 16, 3) := by decide +kernel
theorem dX10_nextByte_25 : decode cX10_nextByte 25 = .ok (.aload_n 0, 1) := by decide +kernel
theorem dX10_nextByte_26 : decode cX10_nextByte 26 = .ok (.dup, 1) := by decide +kernel
theorem dX10_nextByte_27 : decode cX10_nextByte 27 = .ok (.getfield 139, 3) := by decide +kernel
theorem dX10_nextByte_30 : decode cX10_nextByte 30 = .ok (.iconst 1, 1) := by decide +kernel
theorem dX10_nextByte_31 : decode cX10_nextByte 31 = .ok (.iadd, 1) := by decide +kernel
theorem dX10_nextByte_32 : decode cX10_nextByte 32 = .ok (.putfield 139, 3) := by decide +kernel
theorem dX10_nextByte_35 : decode cX10_nextByte 35 = .ok (.goto (-35), 3) := by decide +kernel
theorem dX10_nextByte_38 : decode cX10_nextByte 38 = .ok (.aload_n 0, 1) := by decide +kernel
theorem dX10_nextByte_39 : decode cX10_nextByte 39 = .ok (.getfield 139, 3) := by decide +kernel
theorem dX10_nextByte_42 : decode cX10_nextByte 42 = .ok (.aload_n 0, 1) := by decide +kernel
theorem dX10_nextByte_43 : decode cX10_nextByte 43 = .ok (.getfield 136, 3) := by decide +kernel
theorem dX10_nextByte_46 : decode cX10_nextByte 46 = .ok (.if_icmp .ge 15, 3) := by decide +kernel
theorem dX10_nextByte_49 : decode cX10_nextByte 49 = .ok (.aload_n 0, 1) := by decide +kernel
theorem dX10_nextByte_50 : decode cX10_nextByte 50 = .ok (.getfield 19, 3) := by decide +kernel
theorem dX10_nextByte_53 : decode cX10_nextByte 53 = .ok (.aload_n 0, 1) := by decide +kernel
theorem dX10_nextByte_54 : decode cX10_nextByte 54 = .ok (.getfield 139, 3) := by decide +kernel
theorem dX10_nextByte_57 : decode cX10_nextByte 57 = .ok (.iaload, 1) := by decide +kernel
theorem dX10_nextByte_58 : decode cX10_nextByte 58 = .ok (.goto 4, 3) := by decide +kernel
theorem dX10_nextByte_61 : decode cX10_nextByte 61 = .ok (.iconst (-1), 1) := by decide +kernel
theorem dX10_nextByte_62 : decode cX10_nextByte 62 = .ok (.ireturn, 1) := by decide +kernel
theorem dX10_readTick_0 : decode cX10_readTick 0 = .ok (.aload_n 0, 1) := by decide +kernel
theorem dX10_readTick_1 : decode cX10_readTick 1 = .ok (.invokevirtual 142, 3) := by decide +kernel
theorem dX10_readTick_4 : decode cX10_readTick 4 = .ok (.pop, 1) := by decide +kernel
theorem dX10_readTick_5 : decode cX10_readTick 5 = .ok (.aload_n 0, 1) := by decide +kernel
theorem dX10_readTick_6 : decode cX10_readTick 6 = .ok (.getfield 139, 3) := by decide +kernel
theorem dX10_readTick_9 : decode cX10_readTick 9 = .ok (.istore_n 1, 1) := by decide +kernel
theorem dX10_readTick_10 : decode cX10_readTick 10 = .ok (.iconst 0, 1) := by decide +kernel
theorem dX10_readTick_11 : decode cX10_readTick 11 = .ok (.istore_n 2, 1) := by decide +kernel
theorem dX10_readTick_12 : decode cX10_readTick 12 = .ok (.aload_n 0, 1) := by decide +kernel
theorem dX10_readTick_13 : decode cX10_readTick 13 = .ok (.getfield 139, 3) := by decide +kernel
theorem dX10_readTick_16 : decode cX10_readTick 16 = .ok (.aload_n 0, 1) := by decide +kernel
theorem dX10_readTick_17 : decode cX10_readTick 17 = .ok (.getfield 136, 3) := by decide +kernel
theorem dX10_readTick_20 : decode cX10_readTick 20 = .ok (.if_icmp .ge 67, 3) := by decide +kernel
theorem dX10_readTick_23 : decode cX10_readTick 23 = .ok (.aload_n 0, 1) := by decide +kernel
theorem dX10_readTick_24 : decode cX10_readTick 24 = .ok (.getfield 19, 3) := by decide +kernel
theorem dX10_readTick_27 : decode cX10_readTick 27 = .ok (.aload_n 0, 1) := by decide +kernel
theorem dX10_readTick_28 : decode cX10_readTick 28 = .ok (.getfield 139, 3) := by decide +kernel
theorem dX10_readTick_31 : decode cX10_readTick 31 = .ok (.iaload, 1) := by decide +kernel
theorem dX10_readTick_32 : decode cX10_readTick 32 = .ok (.i2l, 1) := by decide +kernel
theorem dX10_readTick_33 : decode cX10_readTick 33 = .ok (.ldc2_w 146, 3) := by decide +kernel
theorem dX10_readTick_36 : decode cX10_readTick 36 = .ok (.ldc2_w 148, 3) := by decide +kernel
theorem dX10_readTick_39 : decode cX10_readTick 39 = .ok (.invokestatic 75, 3) := by decide +kernel
theorem dX10_readTick_42 : decode cX10_readTick 42 = .ok (.ifCond .eq 45, 3) := by decide +kernel
theorem dX10_readTick_45 : decode cX10_readTick 45 = .ok (.iload_n 2, 1) := by decide +kernel
theorem dX10_readTick_46 : decode cX10_readTick 46 = .ok (.sipush 999, 3) := by decide +kernel
theorem dX10_readTick_49 : decode cX10_readTick 49 = .ok (.if_icmp .le 7, 3) := by decide +kernel
theorem dX10_readTick_52 : decode cX10_readTick 52 = .ok (.iload_n 2, 1) := by decide +kernel
theorem dX10_readTick_53 : decode cX10_readTick 53 = .ok (.goto 20, 3) := by decide +kernel
theorem dX10_readTick_56 : decode cX10_readTick 56 = .ok (.bipush 10, 2) := by decide +kernel
theorem dX10_readTick_58 : decode cX10_readTick 58 = .ok (.iload_n 2, 1) := by decide +kernel
theorem dX10_readTick_59 : decode cX10_readTick 59 = .ok (.imul, 1) := by decide +kernel
theorem dX10_readTick_60 : decode cX10_readTick 60 = .ok (.aload_n 0, 1) := by decide +kernel
theorem dX10_readTick_61 : decode cX10_readTick 61 = .ok (.getfield 19, 3) := by decide +kernel
theorem dX10_readTick_64 : decode cX10_readTick 64 = .ok (.aload_n 0, 1) := by decide +kernel
theorem dX10_readTick_65 : decode cX10_readTick 65 = .ok (.getfield 139, 3) := by decide +kernel
theorem dX10_readTick_68 : decode cX10_readTick 68 = .ok (.iaload, 1) := by decide +kernel
theorem dX10_readTick_69 : decode cX10_readTick 69 = .ok (.iadd, 1) := by decide +kernel
theorem dX10_readTick_70 : decode cX10_readTick 70 = .ok (.bipush 48, 2) := by decide +kernel
theorem dX10_readTick_72 : decode cX10_readTick 72 = .ok (.isub, 1) := by decide +kernel
theorem dX10_readTick_73 : decode cX10_readTick 73 = .ok (.istore_n 2, 1) := by decide +kernel
theorem dX10_readTick_74 : decode cX10_readTick 74 = .ok (.aload_n 0, 1) := by decide +kernel
theorem dX10_readTick_75 : decode cX10_readTick 75 = .ok (.dup, 1) := by decide +kernel
theorem dX10_readTick_76 : decode cX10_readTick 76 = .ok (.getfield 139, 3) := by decide +kernel
theorem dX10_readTick_79 : decode cX10_readTick 79 = .ok (.iconst 1, 1) := by decide +kernel
theorem dX10_readTick_80 : decode cX10_readTick 80 = .ok (.iadd, 1) := by decide +kernel
theorem dX10_readTick_81 : decode cX10_readTick 81 = .ok (.putfield 139, 3) := by decide +kernel
theorem dX10_readTick_84 : decode cX10_readTick 84 = .ok (.goto (-72), 3) := by decide +kernel
theorem dX10_readTick_87 : decode cX10_readTick 87 = .ok (.aload_n 0, 1) := by decide +kernel
theorem dX10_readTick_88 : decode cX10_readTick 88 = .ok (.getfield 139, 3) := by decide +kernel
theorem dX10_readTick_91 : decode cX10_readTick 91 = .ok (.iload_n 1, 1) := by decide +kernel
theorem dX10_readTick_92 : decode cX10_readTick 92 = .ok (.if_icmp .ne 5, 3) := by decide +kernel
theorem dX10_readTick_95 : decode cX10_readTick 95 = .ok (.iconst (-1), 1) := by decide +kernel
theorem dX10_readTick_96 : decode cX10_readTick 96 = .ok (.ireturn, 1) := by decide +kernel
theorem dX10_readTick_97 : decode cX10_readTick 97 = .ok (.iload_n 2, 1) := by decide +kernel
theorem dX10_readTick_98 : decode cX10_readTick 98 = .ok (.bipush 120, 2) := by decide +kernel
theorem dX10_readTick_100 : decode cX10_readTick 100 = .ok (.if_icmp .lt 10, 3) := by decide +kernel
theorem dX10_readTick_103 : decode cX10_readTick 103 = .ok (.aload_n 0, 1) := by decide +kernel
theorem dX10_readTick_104 : decode cX10_readTick 104 = .ok (.iload_n 1, 1) := by decide +kernel
theorem dX10_readTick_105 : decode cX10_readTick 105 = .ok (.putfield 139, 3) := by decide +kernel
theorem dX10_readTick_108 : decode cX10_readTick 108 = .ok (.iconst (-1), 1) := by decide +kernel
theorem dX10_readTick_109 : decode cX10_readTick 109 = .ok (.ireturn, 1) := by decide +kernel
theorem dX10_readTick_110 : decode cX10_readTick 110 = .ok (.iload_n 2, 1) := by decide +kernel
theorem dX10_readTick_111 : decode cX10_readTick 111 = .ok (.ireturn, 1) := by decide +kernel
theorem dX10_readPerson_0 : decode cX10_readPerson 0 = .ok (.aload_n 0, 1) := by decide +kernel
theorem dX10_readPerson_1 : decode cX10_readPerson 1 = .ok (.getfield 22, 3) := by decide +kernel
theorem dX10_readPerson_4 : decode cX10_readPerson 4 = .ok (.iload_n 1, 1) := by decide +kernel
theorem dX10_readPerson_5 : decode cX10_readPerson 5 = .ok (.aload_n 0, 1) := by decide +kernel
theorem dX10_readPerson_6 : decode cX10_readPerson 6 = .ok (.invokevirtual 150, 3) := by decide +kernel
theorem dX10_readPerson_9 : decode cX10_readPerson 9 = .ok (.iastore, 1) := by decide +kernel
theorem dX10_readPerson_10 : decode cX10_readPerson 10 = .ok (.aload_n 0, 1) := by decide +kernel
theorem dX10_readPerson_11 : decode cX10_readPerson 11 = .ok (.getfield 22, 3) := by decide +kernel
theorem dX10_readPerson_14 : decode cX10_readPerson 14 = .ok (.iload_n 1, 1) := by decide +kernel
theorem dX10_readPerson_15 : decode cX10_readPerson 15 = .ok (.iaload, 1) := by decide +kernel
theorem dX10_readPerson_16 : decode cX10_readPerson 16 = .ok (.ifCond .ge 5, 3) := by decide +kernel
theorem dX10_readPerson_19 : decode cX10_readPerson 19 = .ok (.iconst 0, 1) := by decide +kernel
theorem dX10_readPerson_20 : decode cX10_readPerson 20 = .ok (.ireturn, 1) := by decide +kernel
theorem dX10_readPerson_21 : decode cX10_readPerson 21 = .ok (.aload_n 0, 1) := by decide +kernel
theorem dX10_readPerson_22 : decode cX10_readPerson 22 = .ok (.invokevirtual 142, 3) := by decide +kernel
theorem dX10_readPerson_25 : decode cX10_readPerson 25 = .ok (.istore_n 2, 1) := by decide +kernel
theorem dX10_readPerson_26 : decode cX10_readPerson 26 = .ok (.iload_n 2, 1) := by decide +kernel
theorem dX10_readPerson_27 : decode cX10_readPerson 27 = .ok (.bipush 115, 2) := by decide +kernel
theorem dX10_readPerson_29 : decode cX10_readPerson 29 = .ok (.if_icmp .eq 11, 3) := by decide +kernel
theorem dX10_readPerson_32 : decode cX10_readPerson 32 = .ok (.iload_n 2, 1) := by decide +kernel
theorem dX10_readPerson_33 : decode cX10_readPerson 33 = .ok (.bipush 104, 2) := by decide +kernel
theorem dX10_readPerson_35 : decode cX10_readPerson 35 = .ok (.if_icmp .eq 5, 3) := by decide +kernel
theorem dX10_readPerson_38 : decode cX10_readPerson 38 = .ok (.iconst 0, 1) := by decide +kernel
theorem dX10_readPerson_39 : decode cX10_readPerson 39 = .ok (.ireturn, 1) := by decide +kernel
theorem dX10_readPerson_40 : decode cX10_readPerson 40 = .ok (.aload_n 0, 1) := by decide +kernel
theorem dX10_readPerson_41 : decode cX10_readPerson 41 = .ok (.dup, 1) := by decide +kernel
theorem dX10_readPerson_42 : decode cX10_readPerson 42 = .ok (.getfield 139, 3) := by decide +kernel
theorem dX10_readPerson_45 : decode cX10_readPerson 45 = .ok (.iconst 1, 1) := by decide +kernel
theorem dX10_readPerson_46 : decode cX10_readPerson 46 = .ok (.iadd, 1) := by decide +kernel
theorem dX10_readPerson_47 : decode cX10_readPerson 47 = .ok (.putfield 139, 3) := by decide +kernel
theorem dX10_readPerson_50 : decode cX10_readPerson 50 = .ok (.aload_n 0, 1) := by decide +kernel
theorem dX10_readPerson_51 : decode cX10_readPerson 51 = .ok (.getfield 22, 3) := by decide +kernel
theorem dX10_readPerson_54 : decode cX10_readPerson 54 = .ok (.iload_n 1, 1) := by decide +kernel
theorem dX10_readPerson_55 : decode cX10_readPerson 55 = .ok (.iconst 1, 1) := by decide +kernel
theorem dX10_readPerson_56 : decode cX10_readPerson 56 = .ok (.iadd, 1) := by decide +kernel
theorem dX10_readPerson_57 : decode cX10_readPerson 57 = .ok (.iload_n 2, 1) := by decide +kernel
theorem dX10_readPerson_58 : decode cX10_readPerson 58 = .ok (.bipush 115, 2) := by decide +kernel
theorem dX10_readPerson_60 : decode cX10_readPerson 60 = .ok (.if_icmp .ne 7, 3) := by decide +kernel
theorem dX10_readPerson_63 : decode cX10_readPerson 63 = .ok (.iconst 0, 1) := by decide +kernel
theorem dX10_readPerson_64 : decode cX10_readPerson 64 = .ok (.goto 4, 3) := by decide +kernel
theorem dX10_readPerson_67 : decode cX10_readPerson 67 = .ok (.iconst 1, 1) := by decide +kernel
theorem dX10_readPerson_68 : decode cX10_readPerson 68 = .ok (.iastore, 1) := by decide +kernel
theorem dX10_readPerson_69 : decode cX10_readPerson 69 = .ok (.aload_n 0, 1) := by decide +kernel
theorem dX10_readPerson_70 : decode cX10_readPerson 70 = .ok (.invokevirtual 142, 3) := by decide +kernel
theorem dX10_readPerson_73 : decode cX10_readPerson 73 = .ok (.istore_n 3, 1) := by decide +kernel
theorem dX10_readPerson_74 : decode cX10_readPerson 74 = .ok (.aload_n 0, 1) := by decide +kernel
theorem dX10_readPerson_75 : decode cX10_readPerson 75 = .ok (.getfield 22, 3) := by decide +kernel
theorem dX10_readPerson_78 : decode cX10_readPerson 78 = .ok (.iload_n 1, 1) := by decide +kernel
theorem dX10_readPerson_79 : decode cX10_readPerson 79 = .ok (.iconst 2, 1) := by decide +kernel
theorem dX10_readPerson_80 : decode cX10_readPerson 80 = .ok (.iadd, 1) := by decide +kernel
theorem dX10_readPerson_81 : decode cX10_readPerson 81 = .ok (.iload_n 3, 1) := by decide +kernel
theorem dX10_readPerson_82 : decode cX10_readPerson 82 = .ok (.bipush 119, 2) := by decide +kernel
theorem dX10_readPerson_84 : decode cX10_readPerson 84 = .ok (.if_icmp .ne 7, 3) := by decide +kernel
theorem dX10_readPerson_87 : decode cX10_readPerson 87 = .ok (.iconst 0, 1) := by decide +kernel
theorem dX10_readPerson_88 : decode cX10_readPerson 88 = .ok (.goto 54, 3) := by decide +kernel
theorem dX10_readPerson_91 : decode cX10_readPerson 91 = .ok (.iload_n 3, 1) := by decide +kernel
theorem dX10_readPerson_92 : decode cX10_readPerson 92 = .ok (.bipush 98, 2) := by decide +kernel
theorem dX10_readPerson_94 : decode cX10_readPerson 94 = .ok (.if_icmp .ne 7, 3) := by decide +kernel
theorem dX10_readPerson_97 : decode cX10_readPerson 97 = .ok (.iconst 1, 1) := by decide +kernel
theorem dX10_readPerson_98 : decode cX10_readPerson 98 = .ok (.goto 44, 3) := by decide +kernel
theorem dX10_readPerson_101 : decode cX10_readPerson 101 = .ok (.iload_n 3, 1) := by decide +kernel
theorem dX10_readPerson_102 : decode cX10_readPerson 102 = .ok (.bipush 116, 2) := by decide +kernel
theorem dX10_readPerson_104 : decode cX10_readPerson 104 = .ok (.if_icmp .ne 7, 3) := by decide +kernel
theorem dX10_readPerson_107 : decode cX10_readPerson 107 = .ok (.iconst 2, 1) := by decide +kernel
theorem dX10_readPerson_108 : decode cX10_readPerson 108 = .ok (.goto 34, 3) := by decide +kernel
theorem dX10_readPerson_111 : decode cX10_readPerson 111 = .ok (.iload_n 3, 1) := by decide +kernel
theorem dX10_readPerson_112 : decode cX10_readPerson 112 = .ok (.bipush 99, 2) := by decide +kernel
theorem dX10_readPerson_114 : decode cX10_readPerson 114 = .ok (.if_icmp .ne 7, 3) := by decide +kernel
theorem dX10_readPerson_117 : decode cX10_readPerson 117 = .ok (.iconst 3, 1) := by decide +kernel
theorem dX10_readPerson_118 : decode cX10_readPerson 118 = .ok (.goto 24, 3) := by decide +kernel
theorem dX10_readPerson_121 : decode cX10_readPerson 121 = .ok (.iload_n 3, 1) := by decide +kernel
theorem dX10_readPerson_122 : decode cX10_readPerson 122 = .ok (.bipush 104, 2) := by decide +kernel
theorem dX10_readPerson_124 : decode cX10_readPerson 124 = .ok (.if_icmp .ne 7, 3) := by decide +kernel
theorem dX10_readPerson_127 : decode cX10_readPerson 127 = .ok (.iconst 4, 1) := by decide +kernel
theorem dX10_readPerson_128 : decode cX10_readPerson 128 = .ok (.goto 14, 3) := by decide +kernel
theorem dX10_readPerson_131 : decode cX10_readPerson 131 = .ok (.iload_n 3, 1) := by decide +kernel
theorem dX10_readPerson_132 : decode cX10_readPerson 132 = .ok (.bipush 100, 2) := by decide +kernel
theorem dX10_readPerson_134 : decode cX10_readPerson 134 = .ok (.if_icmp .ne 7, 3) := by decide +kernel
theorem dX10_readPerson_137 : decode cX10_readPerson 137 = .ok (.iconst 5, 1) := by decide +kernel
theorem dX10_readPerson_138 : decode cX10_readPerson 138 = .ok (.goto 4, 3) := by decide +kernel
theorem dX10_readPerson_141 : decode cX10_readPerson 141 = .ok (.iconst (-1), 1) := by decide +kernel
theorem dX10_readPerson_142 : decode cX10_readPerson 142 = .ok (.iastore, 1) := by decide +kernel
theorem dX10_readPerson_143 : decode cX10_readPerson 143 = .ok (.aload_n 0, 1) := by decide +kernel
theorem dX10_readPerson_144 : decode cX10_readPerson 144 = .ok (.getfield 22, 3) := by decide +kernel
theorem dX10_readPerson_147 : decode cX10_readPerson 147 = .ok (.iload_n 1, 1) := by decide +kernel
theorem dX10_readPerson_148 : decode cX10_readPerson 148 = .ok (.iconst 2, 1) := by decide +kernel
theorem dX10_readPerson_149 : decode cX10_readPerson 149 = .ok (.iadd, 1) := by decide +kernel
theorem dX10_readPerson_150 : decode cX10_readPerson 150 = .ok (.iaload, 1) := by decide +kernel
theorem dX10_readPerson_151 : decode cX10_readPerson 151 = .ok (.ifCond .ge 5, 3) := by decide +kernel
theorem dX10_readPerson_154 : decode cX10_readPerson 154 = .ok (.iconst 0, 1) := by decide +kernel
theorem dX10_readPerson_155 : decode cX10_readPerson 155 = .ok (.ireturn, 1) := by decide +kernel
theorem dX10_readPerson_156 : decode cX10_readPerson 156 = .ok (.aload_n 0, 1) := by decide +kernel
theorem dX10_readPerson_157 : decode cX10_readPerson 157 = .ok (.dup, 1) := by decide +kernel
theorem dX10_readPerson_158 : decode cX10_readPerson 158 = .ok (.getfield 139, 3) := by decide +kernel
theorem dX10_readPerson_161 : decode cX10_readPerson 161 = .ok (.iconst 1, 1) := by decide +kernel
theorem dX10_readPerson_162 : decode cX10_readPerson 162 = .ok (.iadd, 1) := by decide +kernel
theorem dX10_readPerson_163 : decode cX10_readPerson 163 = .ok (.putfield 139, 3) := by decide +kernel
theorem dX10_readPerson_166 : decode cX10_readPerson 166 = .ok (.iconst 1, 1) := by decide +kernel
theorem dX10_readPerson_167 : decode cX10_readPerson 167 = .ok (.ireturn, 1) := by decide +kernel
theorem dX10_readPeople_0 : decode cX10_readPeople 0 = .ok (.aload_n 0, 1) := by decide +kernel
theorem dX10_readPeople_1 : decode cX10_readPeople 1 = .ok (.iconst 0, 1) := by decide +kernel
theorem dX10_readPeople_2 : decode cX10_readPeople 2 = .ok (.putfield 139, 3) := by decide +kernel
theorem dX10_readPeople_5 : decode cX10_readPeople 5 = .ok (.iconst 0, 1) := by decide +kernel
theorem dX10_readPeople_6 : decode cX10_readPeople 6 = .ok (.istore_n 1, 1) := by decide +kernel
theorem dX10_readPeople_7 : decode cX10_readPeople 7 = .ok (.iload_n 1, 1) := by decide +kernel
theorem dX10_readPeople_8 : decode cX10_readPeople 8 = .ok (.bipush 8, 2) := by decide +kernel
theorem dX10_readPeople_10 : decode cX10_readPeople 10 = .ok (.if_icmp .ge 63, 3) := by decide +kernel
theorem dX10_readPeople_13 : decode cX10_readPeople 13 = .ok (.aload_n 0, 1) := by decide +kernel
theorem dX10_readPeople_14 : decode cX10_readPeople 14 = .ok (.iconst 3, 1) := by decide +kernel
theorem dX10_readPeople_15 : decode cX10_readPeople 15 = .ok (.iload_n 1, 1) := by decide +kernel
theorem dX10_readPeople_16 : decode cX10_readPeople 16 = .ok (.imul, 1) := by decide +kernel
theorem dX10_readPeople_17 : decode cX10_readPeople 17 = .ok (.invokevirtual 153, 3) := by decide +kernel
theorem dX10_readPeople_20 : decode cX10_readPeople 20 = .ok (.ifCond .ne 5, 3) := by decide +kernel
theorem dX10_readPeople_23 : decode cX10_readPeople 23 = .ok (.iconst 0, 1) := by decide +kernel
theorem dX10_readPeople_24 : decode cX10_readPeople 24 = .ok (.ireturn, 1) := by decide +kernel
theorem dX10_readPeople_25 : decode cX10_readPeople 25 = .ok (.aload_n 0, 1) := by decide +kernel
theorem dX10_readPeople_26 : decode cX10_readPeople 26 = .ok (.iload_n 1, 1) := by decide +kernel
theorem dX10_readPeople_27 : decode cX10_readPeople 27 = .ok (.iconst 1, 1) := by decide +kernel
theorem dX10_readPeople_28 : decode cX10_readPeople 28 = .ok (.iadd, 1) := by decide +kernel
theorem dX10_readPeople_29 : decode cX10_readPeople 29 = .ok (.putfield 156, 3) := by decide +kernel
theorem dX10_readPeople_32 : decode cX10_readPeople 32 = .ok (.aload_n 0, 1) := by decide +kernel
theorem dX10_readPeople_33 : decode cX10_readPeople 33 = .ok (.invokevirtual 142, 3) := by decide +kernel
theorem dX10_readPeople_36 : decode cX10_readPeople 36 = .ok (.istore_n 2, 1) := by decide +kernel
theorem dX10_readPeople_37 : decode cX10_readPeople 37 = .ok (.iload_n 2, 1) := by decide +kernel
theorem dX10_readPeople_38 : decode cX10_readPeople 38 = .ok (.ifCond .ge 5, 3) := by decide +kernel
theorem dX10_readPeople_41 : decode cX10_readPeople 41 = .ok (.iconst 1, 1) := by decide +kernel
theorem dX10_readPeople_42 : decode cX10_readPeople 42 = .ok (.ireturn, 1) := by decide +kernel
theorem dX10_readPeople_43 : decode cX10_readPeople 43 = .ok (.iload_n 2, 1) := by decide +kernel
theorem dX10_readPeople_44 : decode cX10_readPeople 44 = .ok (.bipush 59, 2) := by decide +kernel
theorem dX10_readPeople_46 : decode cX10_readPeople 46 = .ok (.if_icmp .ne 9, 3) := by decide +kernel
theorem dX10_readPeople_49 : decode cX10_readPeople 49 = .ok (.iload_n 1, 1) := by decide +kernel
theorem dX10_readPeople_50 : decode cX10_readPeople 50 = .ok (.bipush 7, 2) := by decide +kernel
theorem dX10_readPeople_52 : decode cX10_readPeople 52 = .ok (.if_icmp .ne 5, 3) := by decide +kernel
theorem dX10_readPeople_55 : decode cX10_readPeople 55 = .ok (.iconst 0, 1) := by decide +kernel
theorem dX10_readPeople_56 : decode cX10_readPeople 56 = .ok (.ireturn, 1) := by decide +kernel
theorem dX10_readPeople_57 : decode cX10_readPeople 57 = .ok (.aload_n 0, 1) := by decide +kernel
theorem dX10_readPeople_58 : decode cX10_readPeople 58 = .ok (.dup, 1) := by decide +kernel
theorem dX10_readPeople_59 : decode cX10_readPeople 59 = .ok (.getfield 139, 3) := by decide +kernel
theorem dX10_readPeople_62 : decode cX10_readPeople 62 = .ok (.iconst 1, 1) := by decide +kernel
theorem dX10_readPeople_63 : decode cX10_readPeople 63 = .ok (.iadd, 1) := by decide +kernel
theorem dX10_readPeople_64 : decode cX10_readPeople 64 = .ok (.putfield 139, 3) := by decide +kernel
theorem dX10_readPeople_67 : decode cX10_readPeople 67 = .ok (.iinc 1 1, 3) := by decide +kernel
theorem dX10_readPeople_70 : decode cX10_readPeople 70 = .ok (.goto (-63), 3) := by decide +kernel
theorem dX10_readPeople_73 : decode cX10_readPeople 73 = .ok (.iconst 0, 1) := by decide +kernel
theorem dX10_readPeople_74 : decode cX10_readPeople 74 = .ok (.ireturn, 1) := by decide +kernel
theorem dX10_people_0 : decode cX10_people 0 = .ok (.aload_n 0, 1) := by decide +kernel
theorem dX10_people_1 : decode cX10_people 1 = .ok (.invokevirtual 159, 3) := by decide +kernel
theorem dX10_people_4 : decode cX10_people 4 = .ok (.istore_n 1, 1) := by decide +kernel
theorem dX10_people_5 : decode cX10_people 5 = .ok (.aload_n 0, 1) := by decide +kernel
theorem dX10_people_6 : decode cX10_people 6 = .ok (.iconst 0, 1) := by decide +kernel
theorem dX10_people_7 : decode cX10_people 7 = .ok (.putfield 136, 3) := by decide +kernel
theorem dX10_people_10 : decode cX10_people 10 = .ok (.iload_n 1, 1) := by decide +kernel
theorem dX10_people_11 : decode cX10_people 11 = .ok (.ifCond .ne 11, 3) := by decide +kernel
theorem dX10_people_14 : decode cX10_people 14 = .ok (.bipush (-20), 2) := by decide +kernel
theorem dX10_people_16 : decode cX10_people 16 = .ok (.aload_n 0, 1) := by decide +kernel
theorem dX10_people_17 : decode cX10_people 17 = .ok (.getfield 139, 3) := by decide +kernel
theorem dX10_people_20 : decode cX10_people 20 = .ok (.isub, 1) := by decide +kernel
theorem dX10_people_21 : decode cX10_people 21 = .ok (.ireturn, 1) := by decide +kernel
theorem dX10_people_22 : decode cX10_people 22 = .ok (.aload_n 0, 1) := by decide +kernel
theorem dX10_people_23 : decode cX10_people 23 = .ok (.getfield 7, 3) := by decide +kernel
theorem dX10_people_26 : decode cX10_people 26 = .ok (.bipush 9, 2) := by decide +kernel
theorem dX10_people_28 : decode cX10_people 28 = .ok (.iaload, 1) := by decide +kernel
theorem dX10_people_29 : decode cX10_people 29 = .ok (.aload_n 0, 1) := by decide +kernel
theorem dX10_people_30 : decode cX10_people 30 = .ok (.getfield 156, 3) := by decide +kernel
theorem dX10_people_33 : decode cX10_people 33 = .ok (.iadd, 1) := by decide +kernel
theorem dX10_people_34 : decode cX10_people 34 = .ok (.bipush 12, 2) := by decide +kernel
theorem dX10_people_36 : decode cX10_people 36 = .ok (.if_icmp .le 6, 3) := by decide +kernel
theorem dX10_people_39 : decode cX10_people 39 = .ok (.bipush (-3), 2) := by decide +kernel
theorem dX10_people_41 : decode cX10_people 41 = .ok (.ireturn, 1) := by decide +kernel
theorem dX10_people_42 : decode cX10_people 42 = .ok (.iconst 0, 1) := by decide +kernel
theorem dX10_people_43 : decode cX10_people 43 = .ok (.istore_n 2, 1) := by decide +kernel
theorem dX10_people_44 : decode cX10_people 44 = .ok (.iload_n 2, 1) := by decide +kernel
theorem dX10_people_45 : decode cX10_people 45 = .ok (.aload_n 0, 1) := by decide +kernel
theorem dX10_people_46 : decode cX10_people 46 = .ok (.getfield 156, 3) := by decide +kernel
theorem dX10_people_49 : decode cX10_people 49 = .ok (.if_icmp .ge 41, 3) := by decide +kernel
theorem dX10_people_52 : decode cX10_people 52 = .ok (.aload_n 0, 1) := by decide +kernel
theorem dX10_people_53 : decode cX10_people 53 = .ok (.aload_n 0, 1) := by decide +kernel
theorem dX10_people_54 : decode cX10_people 54 = .ok (.getfield 22, 3) := by decide +kernel
theorem dX10_people_57 : decode cX10_people 57 = .ok (.iconst 3, 1) := by decide +kernel
theorem dX10_people_58 : decode cX10_people 58 = .ok (.iload_n 2, 1) := by decide +kernel
theorem dX10_people_59 : decode cX10_people 59 = .ok (.imul, 1) := by decide +kernel
theorem dX10_people_60 : decode cX10_people 60 = .ok (.iaload, 1) := by decide +kernel
theorem dX10_people_61 : decode cX10_people 61 = .ok (.aload_n 0, 1) := by decide +kernel
theorem dX10_people_62 : decode cX10_people 62 = .ok (.getfield 22, 3) := by decide +kernel
theorem dX10_people_65 : decode cX10_people 65 = .ok (.iconst 3, 1) := by decide +kernel
theorem dX10_people_66 : decode cX10_people 66 = .ok (.iload_n 2, 1) := by decide +kernel
theorem dX10_people_67 : decode cX10_people 67 = .ok (.imul, 1) := by decide +kernel
theorem dX10_people_68 : decode cX10_people 68 = .ok (.iconst 1, 1) := by decide +kernel
theorem dX10_people_69 : decode cX10_people 69 = .ok (.iadd, 1) := by decide +kernel
theorem dX10_people_70 : decode cX10_people 70 = .ok (.iaload, 1) := by decide +kernel
theorem dX10_people_71 : decode cX10_people 71 = .ok (.aload_n 0, 1) := by decide +kernel
theorem dX10_people_72 : decode cX10_people 72 = .ok (.getfield 22, 3) := by decide +kernel
theorem dX10_people_75 : decode cX10_people 75 = .ok (.iconst 3, 1) := by decide +kernel
theorem dX10_people_76 : decode cX10_people 76 = .ok (.iload_n 2, 1) := by decide +kernel
theorem dX10_people_77 : decode cX10_people 77 = .ok (.imul, 1) := by decide +kernel
theorem dX10_people_78 : decode cX10_people 78 = .ok (.iconst 2, 1) := by decide +kernel
theorem dX10_people_79 : decode cX10_people 79 = .ok (.iadd, 1) := by decide +kernel
theorem dX10_people_80 : decode cX10_people 80 = .ok (.iaload, 1) := by decide +kernel
theorem dX10_people_81 : decode cX10_people 81 = .ok (.invokevirtual 115, 3) := by decide +kernel
theorem dX10_people_84 : decode cX10_people 84 = .ok (.iinc 2 1, 3) := by decide +kernel
theorem dX10_people_87 : decode cX10_people 87 = .ok (.goto (-43), 3) := by decide +kernel
theorem dX10_people_90 : decode cX10_people 90 = .ok (.aload_n 0, 1) := by decide +kernel
theorem dX10_people_91 : decode cX10_people 91 = .ok (.getfield 156, 3) := by decide +kernel
theorem dX10_people_94 : decode cX10_people 94 = .ok (.ireturn, 1) := by decide +kernel
theorem dX10_count_0 : decode cX10_count 0 = .ok (.iconst 0, 1) := by decide +kernel
theorem dX10_count_1 : decode cX10_count 1 = .ok (.istore_n 2, 1) := by decide +kernel
theorem dX10_count_2 : decode cX10_count 2 = .ok (.iconst 0, 1) := by decide +kernel
theorem dX10_count_3 : decode cX10_count 3 = .ok (.istore_n 3, 1) := by decide +kernel
theorem dX10_count_4 : decode cX10_count 4 = .ok (.iload_n 3, 1) := by decide +kernel
theorem dX10_count_5 : decode cX10_count 5 = .ok (.aload_n 0, 1) := by decide +kernel
theorem dX10_count_6 : decode cX10_count 6 = .ok (.getfield 7, 3) := by decide +kernel
theorem dX10_count_9 : decode cX10_count 9 = .ok (.bipush 9, 2) := by decide +kernel
theorem dX10_count_11 : decode cX10_count 11 = .ok (.iaload, 1) := by decide +kernel
theorem dX10_count_12 : decode cX10_count 12 = .ok (.if_icmp .ge 26, 3) := by decide +kernel
theorem dX10_count_15 : decode cX10_count 15 = .ok (.iload_n 2, 1) := by decide +kernel
theorem dX10_count_16 : decode cX10_count 16 = .ok (.aload_n 0, 1) := by decide +kernel
theorem dX10_count_17 : decode cX10_count 17 = .ok (.iload_n 3, 1) := by decide +kernel
theorem dX10_count_18 : decode cX10_count 18 = .ok (.iconst 1, 1) := by decide +kernel
theorem dX10_count_19 : decode cX10_count 19 = .ok (.invokevirtual 94, 3) := by decide +kernel
theorem dX10_count_22 : decode cX10_count 22 = .ok (.ifCond .ne 7, 3) := by decide +kernel
theorem dX10_count_25 : decode cX10_count 25 = .ok (.iconst 1, 1) := by decide +kernel
theorem dX10_count_26 : decode cX10_count 26 = .ok (.goto 4, 3) := by decide +kernel
theorem dX10_count_29 : decode cX10_count 29 = .ok (.iconst 0, 1) := by decide +kernel
theorem dX10_count_30 : decode cX10_count 30 = .ok (.iadd, 1) := by decide +kernel
theorem dX10_count_31 : decode cX10_count 31 = .ok (.istore_n 2, 1) := by decide +kernel
theorem dX10_count_32 : decode cX10_count 32 = .ok (.iinc 3 1, 3) := by decide +kernel
theorem dX10_count_35 : decode cX10_count 35 = .ok (.goto (-31), 3) := by decide +kernel
theorem dX10_count_38 : decode cX10_count 38 = .ok (.iload_n 1, 1) := by decide +kernel
theorem dX10_count_39 : decode cX10_count 39 = .ok (.ifCond .ne 13, 3) := by decide +kernel
theorem dX10_count_42 : decode cX10_count 42 = .ok (.aload_n 0, 1) := by decide +kernel
theorem dX10_count_43 : decode cX10_count 43 = .ok (.getfield 7, 3) := by decide +kernel
theorem dX10_count_46 : decode cX10_count 46 = .ok (.bipush 9, 2) := by decide +kernel
theorem dX10_count_48 : decode cX10_count 48 = .ok (.iaload, 1) := by decide +kernel
theorem dX10_count_49 : decode cX10_count 49 = .ok (.goto 13, 3) := by decide +kernel
theorem dX10_count_52 : decode cX10_count 52 = .ok (.iload_n 1, 1) := by decide +kernel
theorem dX10_count_53 : decode cX10_count 53 = .ok (.iconst 1, 1) := by decide +kernel
theorem dX10_count_54 : decode cX10_count 54 = .ok (.if_icmp .ne 7, 3) := by decide +kernel
theorem dX10_count_57 : decode cX10_count 57 = .ok (.iload_n 2, 1) := by decide +kernel
theorem dX10_count_58 : decode cX10_count 58 = .ok (.goto 4, 3) := by decide +kernel
theorem dX10_count_61 : decode cX10_count 61 = .ok (.iconst (-1), 1) := by decide +kernel
theorem dX10_count_62 : decode cX10_count 62 = .ok (.ireturn, 1) := by decide +kernel
theorem dX10_inState_0 : decode cX10_inState 0 = .ok (.iconst 0, 1) := by decide +kernel
theorem dX10_inState_1 : decode cX10_inState 1 = .ok (.istore_n 2, 1) := by decide +kernel
theorem dX10_inState_2 : decode cX10_inState 2 = .ok (.iconst 0, 1) := by decide +kernel
theorem dX10_inState_3 : decode cX10_inState 3 = .ok (.istore_n 3, 1) := by decide +kernel
theorem dX10_inState_4 : decode cX10_inState 4 = .ok (.iload_n 3, 1) := by decide +kernel
theorem dX10_inState_5 : decode cX10_inState 5 = .ok (.aload_n 0, 1) := by decide +kernel
theorem dX10_inState_6 : decode cX10_inState 6 = .ok (.getfield 7, 3) := by decide +kernel
theorem dX10_inState_9 : decode cX10_inState 9 = .ok (.bipush 9, 2) := by decide +kernel
theorem dX10_inState_11 : decode cX10_inState 11 = .ok (.iaload, 1) := by decide +kernel
theorem dX10_inState_12 : decode cX10_inState 12 = .ok (.if_icmp .ge 29, 3) := by decide +kernel
theorem dX10_inState_15 : decode cX10_inState 15 = .ok (.iload_n 2, 1) := by decide +kernel
theorem dX10_inState_16 : decode cX10_inState 16 = .ok (.aload_n 0, 1) := by decide +kernel
theorem dX10_inState_17 : decode cX10_inState 17 = .ok (.getfield 25, 3) := by decide +kernel
theorem dX10_inState_20 : decode cX10_inState 20 = .ok (.iload_n 3, 1) := by decide +kernel
theorem dX10_inState_21 : decode cX10_inState 21 = .ok (.iaload, 1) := by decide +kernel
theorem dX10_inState_22 : decode cX10_inState 22 = .ok (.iload_n 1, 1) := by decide +kernel
theorem dX10_inState_23 : decode cX10_inState 23 = .ok (.if_icmp .ne 9, 3) := by decide +kernel
theorem dX10_inState_26 : decode cX10_inState 26 = .ok (.iconst 1, 1) := by decide +kernel
theorem dX10_inState_27 : decode cX10_inState 27 = .ok (.iload_n 3, 1) := by decide +kernel
theorem dX10_inState_28 : decode cX10_inState 28 = .ok (.ishl, 1) := by decide +kernel
theorem dX10_inState_29 : decode cX10_inState 29 = .ok (.goto 4, 3) := by decide +kernel
theorem dX10_inState_32 : decode cX10_inState 32 = .ok (.iconst 0, 1) := by decide +kernel
theorem dX10_inState_33 : decode cX10_inState 33 = .ok (.ior, 1) := by decide +kernel
theorem dX10_inState_34 : decode cX10_inState 34 = .ok (.istore_n 2, 1) := by decide +kernel
theorem dX10_inState_35 : decode cX10_inState 35 = .ok (.iinc 3 1, 3) := by decide +kernel
theorem dX10_inState_38 : decode cX10_inState 38 = .ok (.goto (-34), 3) := by decide +kernel
theorem dX10_inState_41 : decode cX10_inState 41 = .ok (.iload_n 2, 1) := by decide +kernel
theorem dX10_inState_42 : decode cX10_inState 42 = .ok (.ireturn, 1) := by decide +kernel
theorem dX10_insideOf_0 : decode cX10_insideOf 0 = .ok (.iconst 0, 1) := by decide +kernel
theorem dX10_insideOf_1 : decode cX10_insideOf 1 = .ok (.istore_n 2, 1) := by decide +kernel
theorem dX10_insideOf_2 : decode cX10_insideOf 2 = .ok (.iconst 0, 1) := by decide +kernel
theorem dX10_insideOf_3 : decode cX10_insideOf 3 = .ok (.istore_n 3, 1) := by decide +kernel
theorem dX10_insideOf_4 : decode cX10_insideOf 4 = .ok (.iload_n 3, 1) := by decide +kernel
theorem dX10_insideOf_5 : decode cX10_insideOf 5 = .ok (.aload_n 0, 1) := by decide +kernel
theorem dX10_insideOf_6 : decode cX10_insideOf 6 = .ok (.getfield 7, 3) := by decide +kernel
theorem dX10_insideOf_9 : decode cX10_insideOf 9 = .ok (.bipush 9, 2) := by decide +kernel
theorem dX10_insideOf_11 : decode cX10_insideOf 11 = .ok (.iaload, 1) := by decide +kernel
theorem dX10_insideOf_12 : decode cX10_insideOf 12 = .ok (.if_icmp .ge 39, 3) := by decide +kernel
theorem dX10_insideOf_15 : decode cX10_insideOf 15 = .ok (.iload_n 2, 1) := by decide +kernel
theorem dX10_insideOf_16 : decode cX10_insideOf 16 = .ok (.aload_n 0, 1) := by decide +kernel
theorem dX10_insideOf_17 : decode cX10_insideOf 17 = .ok (.getfield 25, 3) := by decide +kernel
theorem dX10_insideOf_20 : decode cX10_insideOf 20 = .ok (.iload_n 3, 1) := by decide +kernel
theorem dX10_insideOf_21 : decode cX10_insideOf 21 = .ok (.iaload, 1) := by decide +kernel
theorem dX10_insideOf_22 : decode cX10_insideOf 22 = .ok (.iconst 2, 1) := by decide +kernel
theorem dX10_insideOf_23 : decode cX10_insideOf 23 = .ok (.if_icmp .ne 19, 3) := by decide +kernel
theorem dX10_insideOf_26 : decode cX10_insideOf 26 = .ok (.aload_n 0, 1) := by decide +kernel
theorem dX10_insideOf_27 : decode cX10_insideOf 27 = .ok (.getfield 28, 3) := by decide +kernel
theorem dX10_insideOf_30 : decode cX10_insideOf 30 = .ok (.iload_n 3, 1) := by decide +kernel
theorem dX10_insideOf_31 : decode cX10_insideOf 31 = .ok (.iaload, 1) := by decide +kernel
theorem dX10_insideOf_32 : decode cX10_insideOf 32 = .ok (.iload_n 1, 1) := by decide +kernel
theorem dX10_insideOf_33 : decode cX10_insideOf 33 = .ok (.if_icmp .ne 9, 3) := by decide +kernel
theorem dX10_insideOf_36 : decode cX10_insideOf 36 = .ok (.iconst 1, 1) := by decide +kernel
theorem dX10_insideOf_37 : decode cX10_insideOf 37 = .ok (.iload_n 3, 1) := by decide +kernel
theorem dX10_insideOf_38 : decode cX10_insideOf 38 = .ok (.ishl, 1) := by decide +kernel
theorem dX10_insideOf_39 : decode cX10_insideOf 39 = .ok (.goto 4, 3) := by decide +kernel
theorem dX10_insideOf_42 : decode cX10_insideOf 42 = .ok (.iconst 0, 1) := by decide +kernel
theorem dX10_insideOf_43 : decode cX10_insideOf 43 = .ok (.ior, 1) := by decide +kernel
theorem dX10_insideOf_44 : decode cX10_insideOf 44 = .ok (.istore_n 2, 1) := by decide +kernel
theorem dX10_insideOf_45 : decode cX10_insideOf 45 = .ok (.iinc 3 1, 3) := by decide +kernel
theorem dX10_insideOf_48 : decode cX10_insideOf 48 = .ok (.goto (-44), 3) := by decide +kernel
theorem dX10_insideOf_51 : decode cX10_insideOf 51 = .ok (.iload_n 2, 1) := by decide +kernel
theorem dX10_insideOf_52 : decode cX10_insideOf 52 = .ok (.ireturn, 1) := by decide +kernel
theorem dX10_roomOf_0 : decode cX10_roomOf 0 = .ok (.aload_n 0, 1) := by decide +kernel
theorem dX10_roomOf_1 : decode cX10_roomOf 1 = .ok (.getfield 13, 3) := by decide +kernel
theorem dX10_roomOf_4 : decode cX10_roomOf 4 = .ok (.iconst 2, 1) := by decide +kernel
theorem dX10_roomOf_5 : decode cX10_roomOf 5 = .ok (.iaload, 1) := by decide +kernel
theorem dX10_roomOf_6 : decode cX10_roomOf 6 = .ok (.istore_n 2, 1) := by decide +kernel
theorem dX10_roomOf_7 : decode cX10_roomOf 7 = .ok (.iconst 0, 1) := by decide +kernel
theorem dX10_roomOf_8 : decode cX10_roomOf 8 = .ok (.istore_n 3, 1) := by decide +kernel
theorem dX10_roomOf_9 : decode cX10_roomOf 9 = .ok (.iload_n 3, 1) := by decide +kernel
theorem dX10_roomOf_10 : decode cX10_roomOf 10 = .ok (.aload_n 0, 1) := by decide +kernel
theorem dX10_roomOf_11 : decode cX10_roomOf 11 = .ok (.getfield 7, 3) := by decide +kernel
theorem dX10_roomOf_14 : decode cX10_roomOf 14 = .ok (.bipush 9, 2) := by decide +kernel
theorem dX10_roomOf_16 : decode cX10_roomOf 16 = .ok (.iaload, 1) := by decide +kernel
theorem dX10_roomOf_17 : decode cX10_roomOf 17 = .ok (.if_icmp .ge 37, 3) := by decide +kernel
theorem dX10_roomOf_20 : decode cX10_roomOf 20 = .ok (.iload_n 2, 1) := by decide +kernel
theorem dX10_roomOf_21 : decode cX10_roomOf 21 = .ok (.aload_n 0, 1) := by decide +kernel
theorem dX10_roomOf_22 : decode cX10_roomOf 22 = .ok (.iload_n 1, 1) := by decide +kernel
theorem dX10_roomOf_23 : decode cX10_roomOf 23 = .ok (.invokevirtual 163, 3) := by decide +kernel
theorem dX10_roomOf_26 : decode cX10_roomOf 26 = .ok (.iload_n 3, 1) := by decide +kernel
theorem dX10_roomOf_27 : decode cX10_roomOf 27 = .ok (.invokestatic 166, 3) := by decide +kernel
theorem dX10_roomOf_30 : decode cX10_roomOf 30 = .ok (.ifCond .eq 15, 3) := by decide +kernel
theorem dX10_roomOf_33 : decode cX10_roomOf 33 = .ok (.aload_n 0, 1) := by decide +kernel
theorem dX10_roomOf_34 : decode cX10_roomOf 34 = .ok (.iload_n 3, 1) := by decide +kernel
theorem dX10_roomOf_35 : decode cX10_roomOf 35 = .ok (.iconst 2, 1) := by decide +kernel
theorem dX10_roomOf_36 : decode cX10_roomOf 36 = .ok (.invokevirtual 94, 3) := by decide +kernel
theorem dX10_roomOf_39 : decode cX10_roomOf 39 = .ok (.invokestatic 124, 3) := by decide +kernel
theorem dX10_roomOf_42 : decode cX10_roomOf 42 = .ok (.goto 4, 3) := by decide +kernel
theorem dX10_roomOf_45 : decode cX10_roomOf 45 = .ok (.iconst 0, 1) := by decide +kernel
theorem dX10_roomOf_46 : decode cX10_roomOf 46 = .ok (.isub, 1) := by decide +kernel
theorem dX10_roomOf_47 : decode cX10_roomOf 47 = .ok (.istore_n 2, 1) := by decide +kernel
theorem dX10_roomOf_48 : decode cX10_roomOf 48 = .ok (.iinc 3 1, 3) := by decide +kernel
theorem dX10_roomOf_51 : decode cX10_roomOf 51 = .ok (.goto (-42), 3) := by decide +kernel
theorem dX10_roomOf_54 : decode cX10_roomOf 54 = .ok (.iload_n 2, 1) := by decide +kernel
theorem dX10_roomOf_55 : decode cX10_roomOf 55 = .ok (.ireturn, 1) := by decide +kernel
theorem dX10_through_0 : decode cX10_through 0 = .ok (.aload_n 0, 1) := by decide +kernel
theorem dX10_through_1 : decode cX10_through 1 = .ok (.getfield 25, 3) := by decide +kernel
theorem dX10_through_4 : decode cX10_through 4 = .ok (.iload_n 1, 1) := by decide +kernel
theorem dX10_through_5 : decode cX10_through 5 = .ok (.iconst 3, 1) := by decide +kernel
theorem dX10_through_6 : decode cX10_through 6 = .ok (.iastore, 1) := by decide +kernel
theorem dX10_through_7 : decode cX10_through 7 = .ok (.aload_n 0, 1) := by decide +kernel
theorem dX10_through_8 : decode cX10_through 8 = .ok (.getfield 34, 3) := by decide +kernel
theorem dX10_through_11 : decode cX10_through 11 = .ok (.iload_n 1, 1) := by decide +kernel
theorem dX10_through_12 : decode cX10_through 12 = .ok (.iload_n 2, 1) := by decide +kernel
theorem dX10_through_13 : decode cX10_through 13 = .ok (.iastore, 1) := by decide +kernel
theorem dX10_through_14 : decode cX10_through 14 = .ok (.return_, 1) := by decide +kernel
theorem dX10_push_0 : decode cX10_push 0 = .ok (.aload_n 0, 1) := by decide +kernel
theorem dX10_push_1 : decode cX10_push 1 = .ok (.getfield 170, 3) := by decide +kernel
theorem dX10_push_4 : decode cX10_push 4 = .ok (.ifCond .le 19, 3) := by decide +kernel
theorem dX10_push_7 : decode cX10_push 7 = .ok (.aload_n 0, 1) := by decide +kernel
theorem dX10_push_8 : decode cX10_push 8 = .ok (.iconst 0, 1) := by decide +kernel
theorem dX10_push_9 : decode cX10_push 9 = .ok (.putfield 173, 3) := by decide +kernel
theorem dX10_push_12 : decode cX10_push 12 = .ok (.aload_n 0, 1) := by decide +kernel
theorem dX10_push_13 : decode cX10_push 13 = .ok (.dup, 1) := by decide +kernel
theorem dX10_push_14 : decode cX10_push 14 = .ok (.getfield 170, 3) := by decide +kernel
theorem dX10_push_17 : decode cX10_push 17 = .ok (.iconst 1, 1) := by decide +kernel
theorem dX10_push_18 : decode cX10_push 18 = .ok (.isub, 1) := by decide +kernel
theorem dX10_push_19 : decode cX10_push 19 = .ok (.putfield 170, 3) := by decide +kernel
theorem dX10_push_22 : decode cX10_push 22 = .ok (.return_, 1) := by decide +kernel
theorem dX10_push_23 : decode cX10_push 23 = .ok (.aload_n 0, 1) := by decide +kernel
theorem dX10_push_24 : decode cX10_push 24 = .ok (.getfield 13, 3) := by decide +kernel
theorem dX10_push_27 : decode cX10_push 27 = .ok (.iconst 3, 1) := by decide +kernel
theorem dX10_push_28 : decode cX10_push 28 = .ok (.iaload, 1) := by decide +kernel
theorem dX10_push_29 : decode cX10_push 29 = .ok (.istore_n 1, 1) := by decide +kernel
theorem dX10_push_30 : decode cX10_push 30 = .ok (.iconst 0, 1) := by decide +kernel
theorem dX10_push_31 : decode cX10_push 31 = .ok (.istore_n 2, 1) := by decide +kernel
theorem dX10_push_32 : decode cX10_push 32 = .ok (.iload_n 2, 1) := by decide +kernel
theorem dX10_push_33 : decode cX10_push 33 = .ok (.aload_n 0, 1) := by decide +kernel
theorem dX10_push_34 : decode cX10_push 34 = .ok (.getfield 7, 3) := by decide +kernel
theorem dX10_push_37 : decode cX10_push 37 = .ok (.bipush 9, 2) := by decide +kernel
theorem dX10_push_39 : decode cX10_push 39 = .ok (.iaload, 1) := by decide +kernel
theorem dX10_push_40 : decode cX10_push 40 = .ok (.if_icmp .ge 35, 3) := by decide +kernel
theorem dX10_push_43 : decode cX10_push 43 = .ok (.iload_n 1, 1) := by decide +kernel
theorem dX10_push_44 : decode cX10_push 44 = .ok (.aload_n 0, 1) := by decide +kernel
theorem dX10_push_45 : decode cX10_push 45 = .ok (.getfield 25, 3) := by decide +kernel
theorem dX10_push_48 : decode cX10_push 48 = .ok (.iload_n 2, 1) := by decide +kernel
theorem dX10_push_49 : decode cX10_push 49 = .ok (.iaload, 1) := by decide +kernel
theorem dX10_push_50 : decode cX10_push 50 = .ok (.iconst 2, 1) := by decide +kernel
theorem dX10_push_51 : decode cX10_push 51 = .ok (.if_icmp .ne 15, 3) := by decide +kernel
theorem dX10_push_54 : decode cX10_push 54 = .ok (.aload_n 0, 1) := by decide +kernel
theorem dX10_push_55 : decode cX10_push 55 = .ok (.iload_n 2, 1) := by decide +kernel
theorem dX10_push_56 : decode cX10_push 56 = .ok (.iconst 2, 1) := by decide +kernel
theorem dX10_push_57 : decode cX10_push 57 = .ok (.invokevirtual 94, 3) := by decide +kernel
theorem dX10_push_60 : decode cX10_push 60 = .ok (.invokestatic 127, 3) := by decide +kernel
theorem dX10_push_63 : decode cX10_push 63 = .ok (.goto 4, 3) := by decide +kernel
theorem dX10_push_66 : decode cX10_push 66 = .ok (.iconst 0, 1) := by decide +kernel
theorem dX10_push_67 : decode cX10_push 67 = .ok (.iadd, 1) := by decide +kernel
theorem dX10_push_68 : decode cX10_push 68 = .ok (.istore_n 1, 1) := by decide +kernel
theorem dX10_push_69 : decode cX10_push 69 = .ok (.iinc 2 1, 3) := by decide +kernel
theorem dX10_push_72 : decode cX10_push 72 = .ok (.goto (-40), 3) := by decide +kernel
theorem dX10_push_75 : decode cX10_push 75 = .ok (.iload_n 1, 1) := by decide +kernel
theorem dX10_push_76 : decode cX10_push 76 = .ok (.aload_n 0, 1) := by decide +kernel
theorem dX10_push_77 : decode cX10_push 77 = .ok (.getfield 13, 3) := by decide +kernel
theorem dX10_push_80 : decode cX10_push 80 = .ok (.iconst 4, 1) := by decide +kernel
theorem dX10_push_81 : decode cX10_push 81 = .ok (.iaload, 1) := by decide +kernel
theorem dX10_push_82 : decode cX10_push 82 = .ok (.aload_n 0, 1) := by decide +kernel
theorem dX10_push_83 : decode cX10_push 83 = .ok (.getfield 173, 3) := by decide +kernel
theorem dX10_push_86 : decode cX10_push 86 = .ok (.iconst 1, 1) := by decide +kernel
theorem dX10_push_87 : decode cX10_push 87 = .ok (.iadd, 1) := by decide +kernel
theorem dX10_push_88 : decode cX10_push 88 = .ok (.imul, 1) := by decide +kernel
theorem dX10_push_89 : decode cX10_push 89 = .ok (.if_icmp .lt 29, 3) := by decide +kernel
theorem dX10_push_92 : decode cX10_push 92 = .ok (.aload_n 0, 1) := by decide +kernel
theorem dX10_push_93 : decode cX10_push 93 = .ok (.getfield 173, 3) := by decide +kernel
theorem dX10_push_96 : decode cX10_push 96 = .ok (.aload_n 0, 1) := by decide +kernel
theorem dX10_push_97 : decode cX10_push 97 = .ok (.getfield 13, 3) := by decide +kernel
theorem dX10_push_100 : decode cX10_push 100 = .ok (.iconst 5, 1) := by decide +kernel
theorem dX10_push_101 : decode cX10_push 101 = .ok (.iaload, 1) := by decide +kernel
theorem dX10_push_102 : decode cX10_push 102 = .ok (.if_icmp .ge 16, 3) := by decide +kernel
theorem dX10_push_105 : decode cX10_push 105 = .ok (.aload_n 0, 1) := by decide +kernel
theorem dX10_push_106 : decode cX10_push 106 = .ok (.dup, 1) := by decide +kernel
theorem dX10_push_107 : decode cX10_push 107 = .ok (.getfield 173, 3) := by decide +kernel
theorem dX10_push_110 : decode cX10_push 110 = .ok (.iconst 1, 1) := by decide +kernel
theorem dX10_push_111 : decode cX10_push 111 = .ok (.iadd, 1) := by decide +kernel
theorem dX10_push_112 : decode cX10_push 112 = .ok (.putfield 173, 3) := by decide +kernel
theorem dX10_push_115 : decode cX10_push 115 = .ok (.goto 28, 3) := by decide +kernel
theorem dX10_push_118 : decode cX10_push 118 = .ok (.iload_n 1, 1) := by decide +kernel
theorem dX10_push_119 : decode cX10_push 119 = .ok (.aload_n 0, 1) := by decide +kernel
theorem dX10_push_120 : decode cX10_push 120 = .ok (.getfield 13, 3) := by decide +kernel
theorem dX10_push_123 : decode cX10_push 123 = .ok (.iconst 4, 1) := by decide +kernel
theorem dX10_push_124 : decode cX10_push 124 = .ok (.iaload, 1) := by decide +kernel
theorem dX10_push_125 : decode cX10_push 125 = .ok (.aload_n 0, 1) := by decide +kernel
theorem dX10_push_126 : decode cX10_push 126 = .ok (.getfield 173, 3) := by decide +kernel
theorem dX10_push_129 : decode cX10_push 129 = .ok (.imul, 1) := by decide +kernel
theorem dX10_push_130 : decode cX10_push 130 = .ok (.if_icmp .ge 13, 3) := by decide +kernel
theorem dX10_push_133 : decode cX10_push 133 = .ok (.aload_n 0, 1) := by decide +kernel
theorem dX10_push_134 : decode cX10_push 134 = .ok (.dup, 1) := by decide +kernel
theorem dX10_push_135 : decode cX10_push 135 = .ok (.getfield 173, 3) := by decide +kernel
theorem dX10_push_138 : decode cX10_push 138 = .ok (.iconst 1, 1) := by decide +kernel
theorem dX10_push_139 : decode cX10_push 139 = .ok (.isub, 1) := by decide +kernel
theorem dX10_push_140 : decode cX10_push 140 = .ok (.putfield 173, 3) := by decide +kernel
theorem dX10_push_143 : decode cX10_push 143 = .ok (.return_, 1) := by decide +kernel
theorem dX10_step_0 : decode cX10_step 0 = .ok (.aload_n 0, 1) := by decide +kernel
theorem dX10_step_1 : decode cX10_step 1 = .ok (.getfield 176, 3) := by decide +kernel
theorem dX10_step_4 : decode cX10_step 4 = .ok (.istore_n 2, 1) := by decide +kernel
theorem dX10_step_5 : decode cX10_step 5 = .ok (.aload_n 0, 1) := by decide +kernel
theorem dX10_step_6 : decode cX10_step 6 = .ok (.aload_n 0, 1) := by decide +kernel
theorem dX10_step_7 : decode cX10_step 7 = .ok (.getfield 176, 3) := by decide +kernel
theorem dX10_step_10 : decode cX10_step 10 = .ok (.iconst 1, 1) := by decide +kernel
theorem dX10_step_11 : decode cX10_step 11 = .ok (.iadd, 1) := by decide +kernel
theorem dX10_step_12 : decode cX10_step 12 = .ok (.bipush 12, 2) := by decide +kernel
theorem dX10_step_14 : decode cX10_step 14 = .ok (.irem, 1) := by decide +kernel
theorem dX10_step_15 : decode cX10_step 15 = .ok (.putfield 176, 3) := by decide +kernel
theorem dX10_step_18 : decode cX10_step 18 = .ok (.aload_n 0, 1) := by decide +kernel
theorem dX10_step_19 : decode cX10_step 19 = .ok (.dup, 1) := by decide +kernel
theorem dX10_step_20 : decode cX10_step 20 = .ok (.getfield 179, 3) := by decide +kernel
theorem dX10_step_23 : decode cX10_step 23 = .ok (.iconst 1, 1) := by decide +kernel
theorem dX10_step_24 : decode cX10_step 24 = .ok (.iadd, 1) := by decide +kernel
theorem dX10_step_25 : decode cX10_step 25 = .ok (.putfield 179, 3) := by decide +kernel
theorem dX10_step_28 : decode cX10_step 28 = .ok (.iconst 0, 1) := by decide +kernel
theorem dX10_step_29 : decode cX10_step 29 = .ok (.istore_n 3, 1) := by decide +kernel
theorem dX10_step_30 : decode cX10_step 30 = .ok (.iload_n 3, 1) := by decide +kernel
theorem dX10_step_31 : decode cX10_step 31 = .ok (.aload_n 0, 1) := by decide +kernel
theorem dX10_step_32 : decode cX10_step 32 = .ok (.getfield 7, 3) := by decide +kernel
theorem dX10_step_35 : decode cX10_step 35 = .ok (.bipush 9, 2) := by decide +kernel
theorem dX10_step_37 : decode cX10_step 37 = .ok (.iaload, 1) := by decide +kernel
theorem dX10_step_38 : decode cX10_step 38 = .ok (.if_icmp .ge 135, 3) := by decide +kernel
theorem dX10_step_41 : decode cX10_step 41 = .ok (.aload_n 0, 1) := by decide +kernel
theorem dX10_step_42 : decode cX10_step 42 = .ok (.getfield 25, 3) := by decide +kernel
theorem dX10_step_45 : decode cX10_step 45 = .ok (.iload_n 3, 1) := by decide +kernel
theorem dX10_step_46 : decode cX10_step 46 = .ok (.iaload, 1) := by decide +kernel
theorem dX10_step_47 : decode cX10_step 47 = .ok (.iconst 2, 1) := by decide +kernel
theorem dX10_step_48 : decode cX10_step 48 = .ok (.if_icmp .ne 119, 3) := by decide +kernel
theorem dX10_step_51 : decode cX10_step 51 = .ok (.aload_n 0, 1) := by decide +kernel
theorem dX10_step_52 : decode cX10_step 52 = .ok (.aload_n 0, 1) := by decide +kernel
theorem dX10_step_53 : decode cX10_step 53 = .ok (.getfield 28, 3) := by decide +kernel
theorem dX10_step_56 : decode cX10_step 56 = .ok (.iload_n 3, 1) := by decide +kernel
theorem dX10_step_57 : decode cX10_step 57 = .ok (.iaload, 1) := by decide +kernel
theorem dX10_step_58 : decode cX10_step 58 = .ok (.iconst 1, 1) := by decide +kernel
theorem dX10_step_59 : decode cX10_step 59 = .ok (.aload_n 0, 1) := by decide +kernel
theorem dX10_step_60 : decode cX10_step 60 = .ok (.iload_n 3, 1) := by decide +kernel
theorem dX10_step_61 : decode cX10_step 61 = .ok (.iconst 1, 1) := by decide +kernel
theorem dX10_step_62 : decode cX10_step 62 = .ok (.invokevirtual 94, 3) := by decide +kernel
theorem dX10_step_65 : decode cX10_step 65 = .ok (.isub, 1) := by decide +kernel
theorem dX10_step_66 : decode cX10_step 66 = .ok (.aload_n 0, 1) := by decide +kernel
theorem dX10_step_67 : decode cX10_step 67 = .ok (.getfield 176, 3) := by decide +kernel
theorem dX10_step_70 : decode cX10_step 70 = .ok (.invokevirtual 107, 3) := by decide +kernel
theorem dX10_step_73 : decode cX10_step 73 = .ok (.istore 4, 2) := by decide +kernel
theorem dX10_step_75 : decode cX10_step 75 = .ok (.aload_n 0, 1) := by decide +kernel
theorem dX10_step_76 : decode cX10_step 76 = .ok (.iload_n 3, 1) := by decide +kernel
theorem dX10_step_77 : decode cX10_step 77 = .ok (.iconst 2, 1) := by decide +kernel
theorem dX10_step_78 : decode cX10_step 78 = .ok (.invokevirtual 94, 3) := by decide +kernel
theorem dX10_step_81 : decode cX10_step 81 = .ok (.iconst 5, 1) := by decide +kernel
theorem dX10_step_82 : decode cX10_step 82 = .ok (.if_icmp .ne 17, 3) := by decide +kernel
theorem dX10_step_85 : decode cX10_step 85 = .ok (.aload_n 0, 1) := by decide +kernel
theorem dX10_step_86 : decode cX10_step 86 = .ok (.getfield 43, 3) := by decide +kernel
theorem dX10_step_89 : decode cX10_step 89 = .ok (.iload_n 3, 1) := by decide +kernel
theorem dX10_step_90 : decode cX10_step 90 = .ok (.iaload, 1) := by decide +kernel
theorem dX10_step_91 : decode cX10_step 91 = .ok (.iconst 2, 1) := by decide +kernel
theorem dX10_step_92 : decode cX10_step 92 = .ok (.if_icmp .ge 7, 3) := by decide +kernel
theorem dX10_step_95 : decode cX10_step 95 = .ok (.iconst 1, 1) := by decide +kernel
theorem dX10_step_96 : decode cX10_step 96 = .ok (.goto 4, 3) := by decide +kernel
theorem dX10_step_99 : decode cX10_step 99 = .ok (.iconst 0, 1) := by decide +kernel
theorem dX10_step_100 : decode cX10_step 100 = .ok (.istore 5, 2) := by decide +kernel
theorem dX10_step_102 : decode cX10_step 102 = .ok (.iload 4, 2) := by decide +kernel
theorem dX10_step_104 : decode cX10_step 104 = .ok (.ifCond .eq 14, 3) := by decide +kernel
theorem dX10_step_107 : decode cX10_step 107 = .ok (.iload 5, 2) := by decide +kernel
theorem dX10_step_109 : decode cX10_step 109 = .ok (.ifCond .ne 9, 3) := by decide +kernel
theorem dX10_step_112 : decode cX10_step 112 = .ok (.aload_n 0, 1) := by decide +kernel
theorem dX10_step_113 : decode cX10_step 113 = .ok (.iload_n 3, 1) := by decide +kernel
theorem dX10_step_114 : decode cX10_step 114 = .ok (.iload_n 1, 1) := by decide +kernel
theorem dX10_step_115 : decode cX10_step 115 = .ok (.invokevirtual 182, 3) := by decide +kernel
theorem dX10_step_118 : decode cX10_step 118 = .ok (.aload_n 0, 1) := by decide +kernel
theorem dX10_step_119 : decode cX10_step 119 = .ok (.getfield 43, 3) := by decide +kernel
theorem dX10_step_122 : decode cX10_step 122 = .ok (.iload_n 3, 1) := by decide +kernel
theorem dX10_step_123 : decode cX10_step 123 = .ok (.iload 4, 2) := by decide +kernel
theorem dX10_step_125 : decode cX10_step 125 = .ok (.ifCond .eq 16, 3) := by decide +kernel
theorem dX10_step_128 : decode cX10_step 128 = .ok (.aload_n 0, 1) := by decide +kernel
theorem dX10_step_129 : decode cX10_step 129 = .ok (.getfield 43, 3) := by decide +kernel
theorem dX10_step_132 : decode cX10_step 132 = .ok (.iload_n 3, 1) := by decide +kernel
theorem dX10_step_133 : decode cX10_step 133 = .ok (.iaload, 1) := by decide +kernel
theorem dX10_step_134 : decode cX10_step 134 = .ok (.ifCond .ne 7, 3) := by decide +kernel
theorem dX10_step_137 : decode cX10_step 137 = .ok (.iconst 1, 1) := by decide +kernel
theorem dX10_step_138 : decode cX10_step 138 = .ok (.goto 28, 3) := by decide +kernel
theorem dX10_step_141 : decode cX10_step 141 = .ok (.iload 4, 2) := by decide +kernel
theorem dX10_step_143 : decode cX10_step 143 = .ok (.ifCond .ne 17, 3) := by decide +kernel
theorem dX10_step_146 : decode cX10_step 146 = .ok (.aload_n 0, 1) := by decide +kernel
theorem dX10_step_147 : decode cX10_step 147 = .ok (.getfield 43, 3) := by decide +kernel
theorem dX10_step_150 : decode cX10_step 150 = .ok (.iload_n 3, 1) := by decide +kernel
theorem dX10_step_151 : decode cX10_step 151 = .ok (.iaload, 1) := by decide +kernel
theorem dX10_step_152 : decode cX10_step 152 = .ok (.iconst 1, 1) := by decide +kernel
theorem dX10_step_153 : decode cX10_step 153 = .ok (.if_icmp .ne 7, 3) := by decide +kernel
theorem dX10_step_156 : decode cX10_step 156 = .ok (.iconst 2, 1) := by decide +kernel
theorem dX10_step_157 : decode cX10_step 157 = .ok (.goto 9, 3) := by decide +kernel
theorem dX10_step_160 : decode cX10_step 160 = .ok (.aload_n 0, 1) := by decide +kernel
theorem dX10_step_161 : decode cX10_step 161 = .ok (.getfield 43, 3) := by decide +kernel
theorem dX10_step_164 : decode cX10_step 164 = .ok (.iload_n 3, 1) := by decide +kernel
theorem dX10_step_165 : decode cX10_step 165 = .ok (.iaload, 1) := by decide +kernel
theorem dX10_step_166 : decode cX10_step 166 = .ok (.iastore, 1) := by decide +kernel
theorem dX10_step_167 : decode cX10_step 167 = .ok (.iinc 3 1, 3) := by decide +kernel
theorem dX10_step_170 : decode cX10_step 170 = .ok (.goto (-140), 3) := by decide +kernel
theorem dX10_step_173 : decode cX10_step 173 = .ok (.iconst 0, 1) := by decide +kernel
theorem dX10_step_174 : decode cX10_step 174 = .ok (.istore_n 3, 1) := by decide +kernel
theorem dX10_step_175 : decode cX10_step 175 = .ok (.iload_n 3, 1) := by decide +kernel
theorem dX10_step_176 : decode cX10_step 176 = .ok (.aload_n 0, 1) := by decide +kernel
theorem dX10_step_177 : decode cX10_step 177 = .ok (.getfield 13, 3) := by decide +kernel
theorem dX10_step_180 : decode cX10_step 180 = .ok (.iconst 0, 1) := by decide +kernel
theorem dX10_step_181 : decode cX10_step 181 = .ok (.iaload, 1) := by decide +kernel
theorem dX10_step_182 : decode cX10_step 182 = .ok (.if_icmp .ge 66, 3) := by decide +kernel
theorem dX10_step_185 : decode cX10_step 185 = .ok (.aload_n 0, 1) := by decide +kernel
theorem dX10_step_186 : decode cX10_step 186 = .ok (.iload_n 3, 1) := by decide +kernel
theorem dX10_step_187 : decode cX10_step 187 = .ok (.iconst 0, 1) := by decide +kernel
theorem dX10_step_188 : decode cX10_step 188 = .ok (.iload_n 2, 1) := by decide +kernel
theorem dX10_step_189 : decode cX10_step 189 = .ok (.invokevirtual 107, 3) := by decide +kernel
theorem dX10_step_192 : decode cX10_step 192 = .ok (.ifCond .eq 50, 3) := by decide +kernel
theorem dX10_step_195 : decode cX10_step 195 = .ok (.aload_n 0, 1) := by decide +kernel
theorem dX10_step_196 : decode cX10_step 196 = .ok (.iload_n 3, 1) := by decide +kernel
theorem dX10_step_197 : decode cX10_step 197 = .ok (.iconst 0, 1) := by decide +kernel
theorem dX10_step_198 : decode cX10_step 198 = .ok (.aload_n 0, 1) := by decide +kernel
theorem dX10_step_199 : decode cX10_step 199 = .ok (.getfield 176, 3) := by decide +kernel
theorem dX10_step_202 : decode cX10_step 202 = .ok (.invokevirtual 107, 3) := by decide +kernel
theorem dX10_step_205 : decode cX10_step 205 = .ok (.ifCond .ne 37, 3) := by decide +kernel
theorem dX10_step_208 : decode cX10_step 208 = .ok (.aload_n 0, 1) := by decide +kernel
theorem dX10_step_209 : decode cX10_step 209 = .ok (.dup, 1) := by decide +kernel
theorem dX10_step_210 : decode cX10_step 210 = .ok (.getfield 186, 3) := by decide +kernel
theorem dX10_step_213 : decode cX10_step 213 = .ok (.aload_n 0, 1) := by decide +kernel
theorem dX10_step_214 : decode cX10_step 214 = .ok (.iload_n 3, 1) := by decide +kernel
theorem dX10_step_215 : decode cX10_step 215 = .ok (.invokevirtual 189, 3) := by decide +kernel
theorem dX10_step_218 : decode cX10_step 218 = .ok (.ifCond .le 19, 3) := by decide +kernel
theorem dX10_step_221 : decode cX10_step 221 = .ok (.aload_n 0, 1) := by decide +kernel
theorem dX10_step_222 : decode cX10_step 222 = .ok (.getfield 13, 3) := by decide +kernel
theorem dX10_step_225 : decode cX10_step 225 = .ok (.bipush 6, 2) := by decide +kernel
theorem dX10_step_227 : decode cX10_step 227 = .ok (.iaload, 1) := by decide +kernel
theorem dX10_step_228 : decode cX10_step 228 = .ok (.aload_n 0, 1) := by decide +kernel
theorem dX10_step_229 : decode cX10_step 229 = .ok (.iload_n 3, 1) := by decide +kernel
theorem dX10_step_230 : decode cX10_step 230 = .ok (.invokevirtual 189, 3) := by decide +kernel
theorem dX10_step_233 : decode cX10_step 233 = .ok (.imul, 1) := by decide +kernel
theorem dX10_step_234 : decode cX10_step 234 = .ok (.goto 4, 3) := by decide +kernel
theorem dX10_step_237 : decode cX10_step 237 = .ok (.iconst 0, 1) := by decide +kernel
theorem dX10_step_238 : decode cX10_step 238 = .ok (.iadd, 1) := by decide +kernel
theorem dX10_step_239 : decode cX10_step 239 = .ok (.putfield 186, 3) := by decide +kernel
theorem dX10_step_242 : decode cX10_step 242 = .ok (.iinc 3 1, 3) := by decide +kernel
theorem dX10_step_245 : decode cX10_step 245 = .ok (.goto (-70), 3) := by decide +kernel
theorem dX10_step_248 : decode cX10_step 248 = .ok (.return_, 1) := by decide +kernel
theorem dX10_firstAt_0 : decode cX10_firstAt 0 = .ok (.bipush (-4), 2) := by decide +kernel
theorem dX10_firstAt_2 : decode cX10_firstAt 2 = .ok (.istore_n 2, 1) := by decide +kernel
theorem dX10_firstAt_3 : decode cX10_firstAt 3 = .ok (.iconst 0, 1) := by decide +kernel
theorem dX10_firstAt_4 : decode cX10_firstAt 4 = .ok (.istore_n 3, 1) := by decide +kernel
theorem dX10_firstAt_5 : decode cX10_firstAt 5 = .ok (.iload_n 3, 1) := by decide +kernel
theorem dX10_firstAt_6 : decode cX10_firstAt 6 = .ok (.aload_n 0, 1) := by decide +kernel
theorem dX10_firstAt_7 : decode cX10_firstAt 7 = .ok (.getfield 7, 3) := by decide +kernel
theorem dX10_firstAt_10 : decode cX10_firstAt 10 = .ok (.bipush 9, 2) := by decide +kernel
theorem dX10_firstAt_12 : decode cX10_firstAt 12 = .ok (.iaload, 1) := by decide +kernel
theorem dX10_firstAt_13 : decode cX10_firstAt 13 = .ok (.if_icmp .ge 109, 3) := by decide +kernel
theorem dX10_firstAt_16 : decode cX10_firstAt 16 = .ok (.aload_n 0, 1) := by decide +kernel
theorem dX10_firstAt_17 : decode cX10_firstAt 17 = .ok (.getfield 25, 3) := by decide +kernel
theorem dX10_firstAt_20 : decode cX10_firstAt 20 = .ok (.iload_n 3, 1) := by decide +kernel
theorem dX10_firstAt_21 : decode cX10_firstAt 21 = .ok (.iaload, 1) := by decide +kernel
theorem dX10_firstAt_22 : decode cX10_firstAt 22 = .ok (.iconst 1, 1) := by decide +kernel
theorem dX10_firstAt_23 : decode cX10_firstAt 23 = .ok (.if_icmp .ne 93, 3) := by decide +kernel
theorem dX10_firstAt_26 : decode cX10_firstAt 26 = .ok (.aload_n 0, 1) := by decide +kernel
theorem dX10_firstAt_27 : decode cX10_firstAt 27 = .ok (.iload_n 3, 1) := by decide +kernel
theorem dX10_firstAt_28 : decode cX10_firstAt 28 = .ok (.iconst 1, 1) := by decide +kernel
theorem dX10_firstAt_29 : decode cX10_firstAt 29 = .ok (.invokevirtual 94, 3) := by decide +kernel
theorem dX10_firstAt_32 : decode cX10_firstAt 32 = .ok (.iload_n 1, 1) := by decide +kernel
theorem dX10_firstAt_33 : decode cX10_firstAt 33 = .ok (.if_icmp .ne 83, 3) := by decide +kernel
theorem dX10_firstAt_36 : decode cX10_firstAt 36 = .ok (.aload_n 0, 1) := by decide +kernel
theorem dX10_firstAt_37 : decode cX10_firstAt 37 = .ok (.iload_n 3, 1) := by decide +kernel
theorem dX10_firstAt_38 : decode cX10_firstAt 38 = .ok (.iconst 2, 1) := by decide +kernel
theorem dX10_firstAt_39 : decode cX10_firstAt 39 = .ok (.invokevirtual 94, 3) := by decide +kernel
theorem dX10_firstAt_42 : decode cX10_firstAt 42 = .ok (.iconst 4, 1) := by decide +kernel
theorem dX10_firstAt_43 : decode cX10_firstAt 43 = .ok (.if_icmp .ne 7, 3) := by decide +kernel
theorem dX10_firstAt_46 : decode cX10_firstAt 46 = .ok (.iconst 1, 1) := by decide +kernel
theorem dX10_firstAt_47 : decode cX10_firstAt 47 = .ok (.goto 4, 3) := by decide +kernel
theorem dX10_firstAt_50 : decode cX10_firstAt 50 = .ok (.iconst 0, 1) := by decide +kernel
theorem dX10_firstAt_51 : decode cX10_firstAt 51 = .ok (.istore 4, 2) := by decide +kernel
theorem dX10_firstAt_53 : decode cX10_firstAt 53 = .ok (.iload_n 2, 1) := by decide +kernel
theorem dX10_firstAt_54 : decode cX10_firstAt 54 = .ok (.ifCond .lt 17, 3) := by decide +kernel
theorem dX10_firstAt_57 : decode cX10_firstAt 57 = .ok (.aload_n 0, 1) := by decide +kernel
theorem dX10_firstAt_58 : decode cX10_firstAt 58 = .ok (.iload_n 2, 1) := by decide +kernel
theorem dX10_firstAt_59 : decode cX10_firstAt 59 = .ok (.iconst 2, 1) := by decide +kernel
theorem dX10_firstAt_60 : decode cX10_firstAt 60 = .ok (.invokevirtual 94, 3) := by decide +kernel
theorem dX10_firstAt_63 : decode cX10_firstAt 63 = .ok (.iconst 4, 1) := by decide +kernel
theorem dX10_firstAt_64 : decode cX10_firstAt 64 = .ok (.if_icmp .ne 7, 3) := by decide +kernel
theorem dX10_firstAt_67 : decode cX10_firstAt 67 = .ok (.iconst 1, 1) := by decide +kernel
theorem dX10_firstAt_68 : decode cX10_firstAt 68 = .ok (.goto 4, 3) := by decide +kernel
theorem dX10_firstAt_71 : decode cX10_firstAt 71 = .ok (.iconst 0, 1) := by decide +kernel
theorem dX10_firstAt_72 : decode cX10_firstAt 72 = .ok (.istore 5, 2) := by decide +kernel
theorem dX10_firstAt_74 : decode cX10_firstAt 74 = .ok (.iload_n 2, 1) := by decide +kernel
theorem dX10_firstAt_75 : decode cX10_firstAt 75 = .ok (.ifCond .lt 35, 3) := by decide +kernel
theorem dX10_firstAt_78 : decode cX10_firstAt 78 = .ok (.iload 4, 2) := by decide +kernel
theorem dX10_firstAt_80 : decode cX10_firstAt 80 = .ok (.ifCond .eq 8, 3) := by decide +kernel
theorem dX10_firstAt_83 : decode cX10_firstAt 83 = .ok (.iload 5, 2) := by decide +kernel
theorem dX10_firstAt_85 : decode cX10_firstAt 85 = .ok (.ifCond .eq 25, 3) := by decide +kernel
theorem dX10_firstAt_88 : decode cX10_firstAt 88 = .ok (.iload 4, 2) := by decide +kernel
theorem dX10_firstAt_90 : decode cX10_firstAt 90 = .ok (.iload 5, 2) := by decide +kernel
theorem dX10_firstAt_92 : decode cX10_firstAt 92 = .ok (.if_icmp .ne 22, 3) := by decide +kernel
theorem dX10_firstAt_95 : decode cX10_firstAt 95 = .ok (.aload_n 0, 1) := by decide +kernel
theorem dX10_firstAt_96 : decode cX10_firstAt 96 = .ok (.getfield 16, 3) := by decide +kernel
theorem dX10_firstAt_99 : decode cX10_firstAt 99 = .ok (.iload_n 3, 1) := by decide +kernel
theorem dX10_firstAt_100 : decode cX10_firstAt 100 = .ok (.iaload, 1) := by decide +kernel
theorem dX10_firstAt_101 : decode cX10_firstAt 101 = .ok (.aload_n 0, 1) := by decide +kernel
theorem dX10_firstAt_102 : decode cX10_firstAt 102 = .ok (.getfield 16, 3) := by decide +kernel
theorem dX10_firstAt_105 : decode cX10_firstAt 105 = .ok (.iload_n 2, 1) := by decide +kernel
theorem dX10_firstAt_106 : decode cX10_firstAt 106 = .ok (.iaload, 1) := by decide +kernel
theorem dX10_firstAt_107 : decode cX10_firstAt 107 = .ok (.if_icmp .ge 7, 3) := by decide +kernel
theorem dX10_firstAt_110 : decode cX10_firstAt 110 = .ok (.iload_n 3, 1) := by decide +kernel
theorem dX10_firstAt_111 : decode cX10_firstAt 111 = .ok (.goto 4, 3) := by decide +kernel
theorem dX10_firstAt_114 : decode cX10_firstAt 114 = .ok (.iload_n 2, 1) := by decide +kernel
theorem dX10_firstAt_115 : decode cX10_firstAt 115 = .ok (.istore_n 2, 1) := by decide +kernel
theorem dX10_firstAt_116 : decode cX10_firstAt 116 = .ok (.iinc 3 1, 3) := by decide +kernel
theorem dX10_firstAt_119 : decode cX10_firstAt 119 = .ok (.goto (-114), 3) := by decide +kernel
theorem dX10_firstAt_122 : decode cX10_firstAt 122 = .ok (.iload_n 2, 1) := by decide +kernel
theorem dX10_firstAt_123 : decode cX10_firstAt 123 = .ok (.ireturn, 1) := by decide +kernel
theorem dX10_hasGrown_0 : decode cX10_hasGrown 0 = .ok (.iconst 0, 1) := by decide +kernel
theorem dX10_hasGrown_1 : decode cX10_hasGrown 1 = .ok (.istore_n 2, 1) := by decide +kernel
theorem dX10_hasGrown_2 : decode cX10_hasGrown 2 = .ok (.iconst 0, 1) := by decide +kernel
theorem dX10_hasGrown_3 : decode cX10_hasGrown 3 = .ok (.istore_n 3, 1) := by decide +kernel
theorem dX10_hasGrown_4 : decode cX10_hasGrown 4 = .ok (.iload_n 3, 1) := by decide +kernel
theorem dX10_hasGrown_5 : decode cX10_hasGrown 5 = .ok (.aload_n 0, 1) := by decide +kernel
theorem dX10_hasGrown_6 : decode cX10_hasGrown 6 = .ok (.getfield 7, 3) := by decide +kernel
theorem dX10_hasGrown_9 : decode cX10_hasGrown 9 = .ok (.bipush 9, 2) := by decide +kernel
theorem dX10_hasGrown_11 : decode cX10_hasGrown 11 = .ok (.iaload, 1) := by decide +kernel
theorem dX10_hasGrown_12 : decode cX10_hasGrown 12 = .ok (.if_icmp .ge 41, 3) := by decide +kernel
theorem dX10_hasGrown_15 : decode cX10_hasGrown 15 = .ok (.iload_n 2, 1) := by decide +kernel
theorem dX10_hasGrown_16 : decode cX10_hasGrown 16 = .ok (.ifCond .ne 25, 3) := by decide +kernel
theorem dX10_hasGrown_19 : decode cX10_hasGrown 19 = .ok (.aload_n 0, 1) := by decide +kernel
theorem dX10_hasGrown_20 : decode cX10_hasGrown 20 = .ok (.iload_n 1, 1) := by decide +kernel
theorem dX10_hasGrown_21 : decode cX10_hasGrown 21 = .ok (.invokevirtual 163, 3) := by decide +kernel
theorem dX10_hasGrown_24 : decode cX10_hasGrown 24 = .ok (.iload_n 3, 1) := by decide +kernel
theorem dX10_hasGrown_25 : decode cX10_hasGrown 25 = .ok (.invokestatic 166, 3) := by decide +kernel
theorem dX10_hasGrown_28 : decode cX10_hasGrown 28 = .ok (.ifCond .eq 17, 3) := by decide +kernel
theorem dX10_hasGrown_31 : decode cX10_hasGrown 31 = .ok (.aload_n 0, 1) := by decide +kernel
theorem dX10_hasGrown_32 : decode cX10_hasGrown 32 = .ok (.iload_n 3, 1) := by decide +kernel
theorem dX10_hasGrown_33 : decode cX10_hasGrown 33 = .ok (.iconst 2, 1) := by decide +kernel
theorem dX10_hasGrown_34 : decode cX10_hasGrown 34 = .ok (.invokevirtual 94, 3) := by decide +kernel
theorem dX10_hasGrown_37 : decode cX10_hasGrown 37 = .ok (.iconst 3, 1) := by decide +kernel
theorem dX10_hasGrown_38 : decode cX10_hasGrown 38 = .ok (.if_icmp .eq 7, 3) := by decide +kernel
theorem dX10_hasGrown_41 : decode cX10_hasGrown 41 = .ok (.iconst 1, 1) := by decide +kernel
theorem dX10_hasGrown_42 : decode cX10_hasGrown 42 = .ok (.goto 4, 3) := by decide +kernel
theorem dX10_hasGrown_45 : decode cX10_hasGrown 45 = .ok (.iconst 0, 1) := by decide +kernel
theorem dX10_hasGrown_46 : decode cX10_hasGrown 46 = .ok (.istore_n 2, 1) := by decide +kernel
theorem dX10_hasGrown_47 : decode cX10_hasGrown 47 = .ok (.iinc 3 1, 3) := by decide +kernel
theorem dX10_hasGrown_50 : decode cX10_hasGrown 50 = .ok (.goto (-46), 3) := by decide +kernel
theorem dX10_hasGrown_53 : decode cX10_hasGrown 53 = .ok (.iload_n 2, 1) := by decide +kernel
theorem dX10_hasGrown_54 : decode cX10_hasGrown 54 = .ok (.ireturn, 1) := by decide +kernel
theorem dX10_partFor_0 : decode cX10_partFor 0 = .ok (.aload_n 0, 1) := by decide +kernel
theorem dX10_partFor_1 : decode cX10_partFor 1 = .ok (.iload_n 1, 1) := by decide +kernel
theorem dX10_partFor_2 : decode cX10_partFor 2 = .ok (.iconst 2, 1) := by decide +kernel
theorem dX10_partFor_3 : decode cX10_partFor 3 = .ok (.invokevirtual 94, 3) := by decide +kernel
theorem dX10_partFor_6 : decode cX10_partFor 6 = .ok (.istore_n 2, 1) := by decide +kernel
theorem dX10_partFor_7 : decode cX10_partFor 7 = .ok (.aload_n 0, 1) := by decide +kernel
theorem dX10_partFor_8 : decode cX10_partFor 8 = .ok (.iload_n 1, 1) := by decide +kernel
theorem dX10_partFor_9 : decode cX10_partFor 9 = .ok (.iconst 1, 1) := by decide +kernel
theorem dX10_partFor_10 : decode cX10_partFor 10 = .ok (.invokevirtual 94, 3) := by decide +kernel
theorem dX10_partFor_13 : decode cX10_partFor 13 = .ok (.istore_n 3, 1) := by decide +kernel
theorem dX10_partFor_14 : decode cX10_partFor 14 = .ok (.bipush (-4), 2) := by decide +kernel
theorem dX10_partFor_16 : decode cX10_partFor 16 = .ok (.istore 4, 2) := by decide +kernel
theorem dX10_partFor_18 : decode cX10_partFor 18 = .ok (.iconst 0, 1) := by decide +kernel
theorem dX10_partFor_19 : decode cX10_partFor 19 = .ok (.istore 5, 2) := by decide +kernel
theorem dX10_partFor_21 : decode cX10_partFor 21 = .ok (.iload 5, 2) := by decide +kernel
theorem dX10_partFor_23 : decode cX10_partFor 23 = .ok (.aload_n 0, 1) := by decide +kernel
theorem dX10_partFor_24 : decode cX10_partFor 24 = .ok (.getfield 13, 3) := by decide +kernel
theorem dX10_partFor_27 : decode cX10_partFor 27 = .ok (.iconst 0, 1) := by decide +kernel
theorem dX10_partFor_28 : decode cX10_partFor 28 = .ok (.iaload, 1) := by decide +kernel
theorem dX10_partFor_29 : decode cX10_partFor 29 = .ok (.if_icmp .ge 101, 3) := by decide +kernel
theorem dX10_partFor_32 : decode cX10_partFor 32 = .ok (.aload_n 0, 1) := by decide +kernel
theorem dX10_partFor_33 : decode cX10_partFor 33 = .ok (.iload 5, 2) := by decide +kernel
theorem dX10_partFor_35 : decode cX10_partFor 35 = .ok (.iload_n 3, 1) := by decide +kernel
theorem dX10_partFor_36 : decode cX10_partFor 36 = .ok (.aload_n 0, 1) := by decide +kernel
theorem dX10_partFor_37 : decode cX10_partFor 37 = .ok (.getfield 176, 3) := by decide +kernel
theorem dX10_partFor_40 : decode cX10_partFor 40 = .ok (.invokevirtual 107, 3) := by decide +kernel
theorem dX10_partFor_43 : decode cX10_partFor 43 = .ok (.ifCond .eq 34, 3) := by decide +kernel
theorem dX10_partFor_46 : decode cX10_partFor 46 = .ok (.aload_n 0, 1) := by decide +kernel
theorem dX10_partFor_47 : decode cX10_partFor 47 = .ok (.iload 5, 2) := by decide +kernel
theorem dX10_partFor_49 : decode cX10_partFor 49 = .ok (.invokevirtual 189, 3) := by decide +kernel
theorem dX10_partFor_52 : decode cX10_partFor 52 = .ok (.iload_n 2, 1) := by decide +kernel
theorem dX10_partFor_53 : decode cX10_partFor 53 = .ok (.invokestatic 124, 3) := by decide +kernel
theorem dX10_partFor_56 : decode cX10_partFor 56 = .ok (.if_icmp .lt 21, 3) := by decide +kernel
theorem dX10_partFor_59 : decode cX10_partFor 59 = .ok (.iload_n 2, 1) := by decide +kernel
theorem dX10_partFor_60 : decode cX10_partFor 60 = .ok (.iconst 3, 1) := by decide +kernel
theorem dX10_partFor_61 : decode cX10_partFor 61 = .ok (.if_icmp .ne 12, 3) := by decide +kernel
theorem dX10_partFor_64 : decode cX10_partFor 64 = .ok (.aload_n 0, 1) := by decide +kernel
theorem dX10_partFor_65 : decode cX10_partFor 65 = .ok (.iload 5, 2) := by decide +kernel
theorem dX10_partFor_67 : decode cX10_partFor 67 = .ok (.invokevirtual 192, 3) := by decide +kernel
theorem dX10_partFor_70 : decode cX10_partFor 70 = .ok (.ifCond .eq 7, 3) := by decide +kernel
theorem dX10_partFor_73 : decode cX10_partFor 73 = .ok (.iconst 1, 1) := by decide +kernel
theorem dX10_partFor_74 : decode cX10_partFor 74 = .ok (.goto 4, 3) := by decide +kernel
theorem dX10_partFor_77 : decode cX10_partFor 77 = .ok (.iconst 0, 1) := by decide +kernel
theorem dX10_partFor_78 : decode cX10_partFor 78 = .ok (.istore 6, 2) := by decide +kernel
theorem dX10_partFor_80 : decode cX10_partFor 80 = .ok (.iload 6, 2) := by decide +kernel
theorem dX10_partFor_82 : decode cX10_partFor 82 = .ok (.ifCond .eq 38, 3) := by decide +kernel
theorem dX10_partFor_85 : decode cX10_partFor 85 = .ok (.iload 4, 2) := by decide +kernel
theorem dX10_partFor_87 : decode cX10_partFor 87 = .ok (.ifCond .lt 28, 3) := by decide +kernel
theorem dX10_partFor_90 : decode cX10_partFor 90 = .ok (.aload_n 0, 1) := by decide +kernel
theorem dX10_partFor_91 : decode cX10_partFor 91 = .ok (.iload 5, 2) := by decide +kernel
theorem dX10_partFor_93 : decode cX10_partFor 93 = .ok (.iload_n 3, 1) := by decide +kernel
theorem dX10_partFor_94 : decode cX10_partFor 94 = .ok (.aload_n 0, 1) := by decide +kernel
theorem dX10_partFor_95 : decode cX10_partFor 95 = .ok (.getfield 176, 3) := by decide +kernel
theorem dX10_partFor_98 : decode cX10_partFor 98 = .ok (.invokevirtual 86, 3) := by decide +kernel
theorem dX10_partFor_101 : decode cX10_partFor 101 = .ok (.aload_n 0, 1) := by decide +kernel
theorem dX10_partFor_102 : decode cX10_partFor 102 = .ok (.iload 4, 2) := by decide +kernel
theorem dX10_partFor_104 : decode cX10_partFor 104 = .ok (.iload_n 3, 1) := by decide +kernel
theorem dX10_partFor_105 : decode cX10_partFor 105 = .ok (.aload_n 0, 1) := by decide +kernel
theorem dX10_partFor_106 : decode cX10_partFor 106 = .ok (.getfield 176, 3) := by decide +kernel
theorem dX10_partFor_109 : decode cX10_partFor 109 = .ok (.invokevirtual 86, 3) := by decide +kernel
theorem dX10_partFor_112 : decode cX10_partFor 112 = .ok (.if_icmp .le 8, 3) := by decide +kernel
theorem dX10_partFor_115 : decode cX10_partFor 115 = .ok (.iload 5, 2) := by decide +kernel
theorem dX10_partFor_117 : decode cX10_partFor 117 = .ok (.goto 5, 3) := by decide +kernel
theorem dX10_partFor_120 : decode cX10_partFor 120 = .ok (.iload 4, 2) := by decide +kernel
theorem dX10_partFor_122 : decode cX10_partFor 122 = .ok (.istore 4, 2) := by decide +kernel
theorem dX10_partFor_124 : decode cX10_partFor 124 = .ok (.iinc 5 1, 3) := by decide +kernel
theorem dX10_partFor_127 : decode cX10_partFor 127 = .ok (.goto (-106), 3) := by decide +kernel
theorem dX10_partFor_130 : decode cX10_partFor 130 = .ok (.iload_n 2, 1) := by decide +kernel
theorem dX10_partFor_131 : decode cX10_partFor 131 = .ok (.iconst 1, 1) := by decide +kernel
theorem dX10_partFor_132 : decode cX10_partFor 132 = .ok (.if_icmp .eq 8, 3) := by decide +kernel
theorem dX10_partFor_135 : decode cX10_partFor 135 = .ok (.iload_n 2, 1) := by decide +kernel
theorem dX10_partFor_136 : decode cX10_partFor 136 = .ok (.iconst 2, 1) := by decide +kernel
theorem dX10_partFor_137 : decode cX10_partFor 137 = .ok (.if_icmp .ne 16, 3) := by decide +kernel
theorem dX10_partFor_140 : decode cX10_partFor 140 = .ok (.aload_n 0, 1) := by decide +kernel
theorem dX10_partFor_141 : decode cX10_partFor 141 = .ok (.getfield 173, 3) := by decide +kernel
theorem dX10_partFor_144 : decode cX10_partFor 144 = .ok (.iconst 2, 1) := by decide +kernel
theorem dX10_partFor_145 : decode cX10_partFor 145 = .ok (.if_icmp .lt 8, 3) := by decide +kernel
theorem dX10_partFor_148 : decode cX10_partFor 148 = .ok (.bipush (-4), 2) := by decide +kernel
theorem dX10_partFor_150 : decode cX10_partFor 150 = .ok (.goto 5, 3) := by decide +kernel
theorem dX10_partFor_153 : decode cX10_partFor 153 = .ok (.iload 4, 2) := by decide +kernel
theorem dX10_partFor_155 : decode cX10_partFor 155 = .ok (.ireturn, 1) := by decide +kernel
theorem dX10_stepIn_0 : decode cX10_stepIn 0 = .ok (.aload_n 0, 1) := by decide +kernel
theorem dX10_stepIn_1 : decode cX10_stepIn 1 = .ok (.iload_n 1, 1) := by decide +kernel
theorem dX10_stepIn_2 : decode cX10_stepIn 2 = .ok (.iconst 2, 1) := by decide +kernel
theorem dX10_stepIn_3 : decode cX10_stepIn 3 = .ok (.invokevirtual 94, 3) := by decide +kernel
theorem dX10_stepIn_6 : decode cX10_stepIn 6 = .ok (.istore 4, 2) := by decide +kernel
theorem dX10_stepIn_8 : decode cX10_stepIn 8 = .ok (.aload_n 0, 1) := by decide +kernel
theorem dX10_stepIn_9 : decode cX10_stepIn 9 = .ok (.iload_n 2, 1) := by decide +kernel
theorem dX10_stepIn_10 : decode cX10_stepIn 10 = .ok (.invokevirtual 163, 3) := by decide +kernel
theorem dX10_stepIn_13 : decode cX10_stepIn 13 = .ok (.istore 5, 2) := by decide +kernel
theorem dX10_stepIn_15 : decode cX10_stepIn 15 = .ok (.aload_n 0, 1) := by decide +kernel
theorem dX10_stepIn_16 : decode cX10_stepIn 16 = .ok (.getfield 25, 3) := by decide +kernel
theorem dX10_stepIn_19 : decode cX10_stepIn 19 = .ok (.iload_n 1, 1) := by decide +kernel
theorem dX10_stepIn_20 : decode cX10_stepIn 20 = .ok (.iconst 2, 1) := by decide +kernel
theorem dX10_stepIn_21 : decode cX10_stepIn 21 = .ok (.iastore, 1) := by decide +kernel
theorem dX10_stepIn_22 : decode cX10_stepIn 22 = .ok (.aload_n 0, 1) := by decide +kernel
theorem dX10_stepIn_23 : decode cX10_stepIn 23 = .ok (.getfield 28, 3) := by decide +kernel
theorem dX10_stepIn_26 : decode cX10_stepIn 26 = .ok (.iload_n 1, 1) := by decide +kernel
theorem dX10_stepIn_27 : decode cX10_stepIn 27 = .ok (.iload_n 2, 1) := by decide +kernel
theorem dX10_stepIn_28 : decode cX10_stepIn 28 = .ok (.iastore, 1) := by decide +kernel
theorem dX10_stepIn_29 : decode cX10_stepIn 29 = .ok (.aload_n 0, 1) := by decide +kernel
theorem dX10_stepIn_30 : decode cX10_stepIn 30 = .ok (.getfield 31, 3) := by decide +kernel
theorem dX10_stepIn_33 : decode cX10_stepIn 33 = .ok (.iload_n 1, 1) := by decide +kernel
theorem dX10_stepIn_34 : decode cX10_stepIn 34 = .ok (.iload_n 3, 1) := by decide +kernel
theorem dX10_stepIn_35 : decode cX10_stepIn 35 = .ok (.iastore, 1) := by decide +kernel
theorem dX10_stepIn_36 : decode cX10_stepIn 36 = .ok (.aload_n 0, 1) := by decide +kernel
theorem dX10_stepIn_37 : decode cX10_stepIn 37 = .ok (.getfield 37, 3) := by decide +kernel
theorem dX10_stepIn_40 : decode cX10_stepIn 40 = .ok (.iload_n 1, 1) := by decide +kernel
theorem dX10_stepIn_41 : decode cX10_stepIn 41 = .ok (.iload_n 3, 1) := by decide +kernel
theorem dX10_stepIn_42 : decode cX10_stepIn 42 = .ok (.aload_n 0, 1) := by decide +kernel
theorem dX10_stepIn_43 : decode cX10_stepIn 43 = .ok (.getfield 16, 3) := by decide +kernel
theorem dX10_stepIn_46 : decode cX10_stepIn 46 = .ok (.iload_n 1, 1) := by decide +kernel
theorem dX10_stepIn_47 : decode cX10_stepIn 47 = .ok (.iaload, 1) := by decide +kernel
theorem dX10_stepIn_48 : decode cX10_stepIn 48 = .ok (.isub, 1) := by decide +kernel
theorem dX10_stepIn_49 : decode cX10_stepIn 49 = .ok (.iastore, 1) := by decide +kernel
theorem dX10_stepIn_50 : decode cX10_stepIn 50 = .ok (.aload_n 0, 1) := by decide +kernel
theorem dX10_stepIn_51 : decode cX10_stepIn 51 = .ok (.getfield 43, 3) := by decide +kernel
theorem dX10_stepIn_54 : decode cX10_stepIn 54 = .ok (.iload_n 1, 1) := by decide +kernel
theorem dX10_stepIn_55 : decode cX10_stepIn 55 = .ok (.iconst 0, 1) := by decide +kernel
theorem dX10_stepIn_56 : decode cX10_stepIn 56 = .ok (.iastore, 1) := by decide +kernel
theorem dX10_stepIn_57 : decode cX10_stepIn 57 = .ok (.aload_n 0, 1) := by decide +kernel
theorem dX10_stepIn_58 : decode cX10_stepIn 58 = .ok (.getfield 46, 3) := by decide +kernel
theorem dX10_stepIn_61 : decode cX10_stepIn 61 = .ok (.iload_n 1, 1) := by decide +kernel
theorem dX10_stepIn_62 : decode cX10_stepIn 62 = .ok (.dup2, 1) := by decide +kernel
theorem dX10_stepIn_63 : decode cX10_stepIn 63 = .ok (.iaload, 1) := by decide +kernel
theorem dX10_stepIn_64 : decode cX10_stepIn 64 = .ok (.iload 5, 2) := by decide +kernel
theorem dX10_stepIn_66 : decode cX10_stepIn 66 = .ok (.ior, 1) := by decide +kernel
theorem dX10_stepIn_67 : decode cX10_stepIn 67 = .ok (.iastore, 1) := by decide +kernel
theorem dX10_stepIn_68 : decode cX10_stepIn 68 = .ok (.iconst 0, 1) := by decide +kernel
theorem dX10_stepIn_69 : decode cX10_stepIn 69 = .ok (.istore 6, 2) := by decide +kernel
theorem dX10_stepIn_71 : decode cX10_stepIn 71 = .ok (.iload 6, 2) := by decide +kernel
theorem dX10_stepIn_73 : decode cX10_stepIn 73 = .ok (.aload_n 0, 1) := by decide +kernel
theorem dX10_stepIn_74 : decode cX10_stepIn 74 = .ok (.getfield 7, 3) := by decide +kernel
theorem dX10_stepIn_77 : decode cX10_stepIn 77 = .ok (.bipush 9, 2) := by decide +kernel
theorem dX10_stepIn_79 : decode cX10_stepIn 79 = .ok (.iaload, 1) := by decide +kernel
theorem dX10_stepIn_80 : decode cX10_stepIn 80 = .ok (.if_icmp .ge 36, 3) := by decide +kernel
theorem dX10_stepIn_83 : decode cX10_stepIn 83 = .ok (.aload_n 0, 1) := by decide +kernel
theorem dX10_stepIn_84 : decode cX10_stepIn 84 = .ok (.getfield 46, 3) := by decide +kernel
theorem dX10_stepIn_87 : decode cX10_stepIn 87 = .ok (.iload 6, 2) := by decide +kernel
theorem dX10_stepIn_89 : decode cX10_stepIn 89 = .ok (.dup2, 1) := by decide +kernel
theorem dX10_stepIn_90 : decode cX10_stepIn 90 = .ok (.iaload, 1) := by decide +kernel
theorem dX10_stepIn_91 : decode cX10_stepIn 91 = .ok (.iload 5, 2) := by decide +kernel
theorem dX10_stepIn_93 : decode cX10_stepIn 93 = .ok (.iload 6, 2) := by decide +kernel
theorem dX10_stepIn_95 : decode cX10_stepIn 95 = .ok (.invokestatic 166, 3) := by decide +kernel
theorem dX10_stepIn_98 : decode cX10_stepIn 98 = .ok (.ifCond .eq 9, 3) := by decide +kernel
theorem dX10_stepIn_101 : decode cX10_stepIn 101 = .ok (.iconst 1, 1) := by decide +kernel
theorem dX10_stepIn_102 : decode cX10_stepIn 102 = .ok (.iload_n 1, 1) := by decide +kernel
theorem dX10_stepIn_103 : decode cX10_stepIn 103 = .ok (.ishl, 1) := by decide +kernel
theorem dX10_stepIn_104 : decode cX10_stepIn 104 = .ok (.goto 4, 3) := by decide +kernel
theorem dX10_stepIn_107 : decode cX10_stepIn 107 = .ok (.iconst 0, 1) := by decide +kernel
theorem dX10_stepIn_108 : decode cX10_stepIn 108 = .ok (.ior, 1) := by decide +kernel
theorem dX10_stepIn_109 : decode cX10_stepIn 109 = .ok (.iastore, 1) := by decide +kernel
theorem dX10_stepIn_110 : decode cX10_stepIn 110 = .ok (.iinc 6 1, 3) := by decide +kernel
theorem dX10_stepIn_113 : decode cX10_stepIn 113 = .ok (.goto (-42), 3) := by decide +kernel
theorem dX10_stepIn_116 : decode cX10_stepIn 116 = .ok (.iload 4, 2) := by decide +kernel
theorem dX10_stepIn_118 : decode cX10_stepIn 118 = .ok (.iconst 1, 1) := by decide +kernel
theorem dX10_stepIn_119 : decode cX10_stepIn 119 = .ok (.if_icmp .eq 9, 3) := by decide +kernel
theorem dX10_stepIn_122 : decode cX10_stepIn 122 = .ok (.iload 4, 2) := by decide +kernel
theorem dX10_stepIn_124 : decode cX10_stepIn 124 = .ok (.iconst 2, 1) := by decide +kernel
theorem dX10_stepIn_125 : decode cX10_stepIn 125 = .ok (.if_icmp .ne 53, 3) := by decide +kernel
theorem dX10_stepIn_128 : decode cX10_stepIn 128 = .ok (.aload_n 0, 1) := by decide +kernel
theorem dX10_stepIn_129 : decode cX10_stepIn 129 = .ok (.getfield 173, 3) := by decide +kernel
theorem dX10_stepIn_132 : decode cX10_stepIn 132 = .ok (.iconst 1, 1) := by decide +kernel
theorem dX10_stepIn_133 : decode cX10_stepIn 133 = .ok (.if_icmp .ne 45, 3) := by decide +kernel
theorem dX10_stepIn_136 : decode cX10_stepIn 136 = .ok (.aload_n 0, 1) := by decide +kernel
theorem dX10_stepIn_137 : decode cX10_stepIn 137 = .ok (.iload_n 2, 1) := by decide +kernel
theorem dX10_stepIn_138 : decode cX10_stepIn 138 = .ok (.aload_n 0, 1) := by decide +kernel
theorem dX10_stepIn_139 : decode cX10_stepIn 139 = .ok (.iload_n 1, 1) := by decide +kernel
theorem dX10_stepIn_140 : decode cX10_stepIn 140 = .ok (.iconst 1, 1) := by decide +kernel
theorem dX10_stepIn_141 : decode cX10_stepIn 141 = .ok (.invokevirtual 94, 3) := by decide +kernel
theorem dX10_stepIn_144 : decode cX10_stepIn 144 = .ok (.aload_n 0, 1) := by decide +kernel
theorem dX10_stepIn_145 : decode cX10_stepIn 145 = .ok (.getfield 176, 3) := by decide +kernel
theorem dX10_stepIn_148 : decode cX10_stepIn 148 = .ok (.invokevirtual 86, 3) := by decide +kernel
theorem dX10_stepIn_151 : decode cX10_stepIn 151 = .ok (.aload_n 0, 1) := by decide +kernel
theorem dX10_stepIn_152 : decode cX10_stepIn 152 = .ok (.getfield 13, 3) := by decide +kernel
theorem dX10_stepIn_155 : decode cX10_stepIn 155 = .ok (.iconst 1, 1) := by decide +kernel
theorem dX10_stepIn_156 : decode cX10_stepIn 156 = .ok (.iaload, 1) := by decide +kernel
theorem dX10_stepIn_157 : decode cX10_stepIn 157 = .ok (.if_icmp .ne 21, 3) := by decide +kernel
theorem dX10_stepIn_160 : decode cX10_stepIn 160 = .ok (.aload_n 0, 1) := by decide +kernel
theorem dX10_stepIn_161 : decode cX10_stepIn 161 = .ok (.getfield 40, 3) := by decide +kernel
theorem dX10_stepIn_164 : decode cX10_stepIn 164 = .ok (.iload_n 1, 1) := by decide +kernel
theorem dX10_stepIn_165 : decode cX10_stepIn 165 = .ok (.iconst 1, 1) := by decide +kernel
theorem dX10_stepIn_166 : decode cX10_stepIn 166 = .ok (.iastore, 1) := by decide +kernel
theorem dX10_stepIn_167 : decode cX10_stepIn 167 = .ok (.aload_n 0, 1) := by decide +kernel
theorem dX10_stepIn_168 : decode cX10_stepIn 168 = .ok (.aload_n 0, 1) := by decide +kernel
theorem dX10_stepIn_169 : decode cX10_stepIn 169 = .ok (.getfield 13, 3) := by decide +kernel
theorem dX10_stepIn_172 : decode cX10_stepIn 172 = .ok (.bipush 7, 2) := by decide +kernel
theorem dX10_stepIn_174 : decode cX10_stepIn 174 = .ok (.iaload, 1) := by decide +kernel
theorem dX10_stepIn_175 : decode cX10_stepIn 175 = .ok (.putfield 170, 3) := by decide +kernel
theorem dX10_stepIn_178 : decode cX10_stepIn 178 = .ok (.return_, 1) := by decide +kernel
theorem dX10_allStepIn_0 : decode cX10_allStepIn 0 = .ok (.iconst 0, 1) := by decide +kernel
theorem dX10_allStepIn_1 : decode cX10_allStepIn 1 = .ok (.istore_n 2, 1) := by decide +kernel
theorem dX10_allStepIn_2 : decode cX10_allStepIn 2 = .ok (.iload_n 2, 1) := by decide +kernel
theorem dX10_allStepIn_3 : decode cX10_allStepIn 3 = .ok (.iconst 2, 1) := by decide +kernel
theorem dX10_allStepIn_4 : decode cX10_allStepIn 4 = .ok (.if_icmp .ge 47, 3) := by decide +kernel
theorem dX10_allStepIn_7 : decode cX10_allStepIn 7 = .ok (.aload_n 0, 1) := by decide +kernel
theorem dX10_allStepIn_8 : decode cX10_allStepIn 8 = .ok (.iload_n 2, 1) := by decide +kernel
theorem dX10_allStepIn_9 : decode cX10_allStepIn 9 = .ok (.invokevirtual 195, 3) := by decide +kernel
theorem dX10_allStepIn_12 : decode cX10_allStepIn 12 = .ok (.istore_n 3, 1) := by decide +kernel
theorem dX10_allStepIn_13 : decode cX10_allStepIn 13 = .ok (.iload_n 3, 1) := by decide +kernel
theorem dX10_allStepIn_14 : decode cX10_allStepIn 14 = .ok (.ifCond .lt 31, 3) := by decide +kernel
theorem dX10_allStepIn_17 : decode cX10_allStepIn 17 = .ok (.aload_n 0, 1) := by decide +kernel
theorem dX10_allStepIn_18 : decode cX10_allStepIn 18 = .ok (.iload_n 3, 1) := by decide +kernel
theorem dX10_allStepIn_19 : decode cX10_allStepIn 19 = .ok (.invokevirtual 198, 3) := by decide +kernel
theorem dX10_allStepIn_22 : decode cX10_allStepIn 22 = .ok (.ifCond .lt 23, 3) := by decide +kernel
theorem dX10_allStepIn_25 : decode cX10_allStepIn 25 = .ok (.aload_n 0, 1) := by decide +kernel
theorem dX10_allStepIn_26 : decode cX10_allStepIn 26 = .ok (.iload_n 3, 1) := by decide +kernel
theorem dX10_allStepIn_27 : decode cX10_allStepIn 27 = .ok (.aload_n 0, 1) := by decide +kernel
theorem dX10_allStepIn_28 : decode cX10_allStepIn 28 = .ok (.iload_n 3, 1) := by decide +kernel
theorem dX10_allStepIn_29 : decode cX10_allStepIn 29 = .ok (.invokevirtual 198, 3) := by decide +kernel
theorem dX10_allStepIn_32 : decode cX10_allStepIn 32 = .ok (.iload_n 1, 1) := by decide +kernel
theorem dX10_allStepIn_33 : decode cX10_allStepIn 33 = .ok (.invokevirtual 201, 3) := by decide +kernel
theorem dX10_allStepIn_36 : decode cX10_allStepIn 36 = .ok (.aload_n 0, 1) := by decide +kernel
theorem dX10_allStepIn_37 : decode cX10_allStepIn 37 = .ok (.iload_n 2, 1) := by decide +kernel
theorem dX10_allStepIn_38 : decode cX10_allStepIn 38 = .ok (.invokevirtual 195, 3) := by decide +kernel
theorem dX10_allStepIn_41 : decode cX10_allStepIn 41 = .ok (.istore_n 3, 1) := by decide +kernel
theorem dX10_allStepIn_42 : decode cX10_allStepIn 42 = .ok (.goto (-29), 3) := by decide +kernel
theorem dX10_allStepIn_45 : decode cX10_allStepIn 45 = .ok (.iinc 2 1, 3) := by decide +kernel
theorem dX10_allStepIn_48 : decode cX10_allStepIn 48 = .ok (.goto (-46), 3) := by decide +kernel
theorem dX10_allStepIn_51 : decode cX10_allStepIn 51 = .ok (.return_, 1) := by decide +kernel
theorem dX10_goFolded_0 : decode cX10_goFolded 0 = .ok (.aload_n 0, 1) := by decide +kernel
theorem dX10_goFolded_1 : decode cX10_goFolded 1 = .ok (.iconst 0, 1) := by decide +kernel
theorem dX10_goFolded_2 : decode cX10_goFolded 2 = .ok (.putfield 173, 3) := by decide +kernel
theorem dX10_goFolded_5 : decode cX10_goFolded 5 = .ok (.aload_n 0, 1) := by decide +kernel
theorem dX10_goFolded_6 : decode cX10_goFolded 6 = .ok (.iconst 0, 1) := by decide +kernel
theorem dX10_goFolded_7 : decode cX10_goFolded 7 = .ok (.putfield 170, 3) := by decide +kernel
theorem dX10_goFolded_10 : decode cX10_goFolded 10 = .ok (.iconst 0, 1) := by decide +kernel
theorem dX10_goFolded_11 : decode cX10_goFolded 11 = .ok (.istore_n 2, 1) := by decide +kernel
theorem dX10_goFolded_12 : decode cX10_goFolded 12 = .ok (.iload_n 2, 1) := by decide +kernel
theorem dX10_goFolded_13 : decode cX10_goFolded 13 = .ok (.aload_n 0, 1) := by decide +kernel
theorem dX10_goFolded_14 : decode cX10_goFolded 14 = .ok (.getfield 7, 3) := by decide +kernel
theorem dX10_goFolded_17 : decode cX10_goFolded 17 = .ok (.bipush 9, 2) := by decide +kernel
theorem dX10_goFolded_19 : decode cX10_goFolded 19 = .ok (.iaload, 1) := by decide +kernel
theorem dX10_goFolded_20 : decode cX10_goFolded 20 = .ok (.if_icmp .ge 25, 3) := by decide +kernel
theorem dX10_goFolded_23 : decode cX10_goFolded 23 = .ok (.aload_n 0, 1) := by decide +kernel
theorem dX10_goFolded_24 : decode cX10_goFolded 24 = .ok (.getfield 25, 3) := by decide +kernel
theorem dX10_goFolded_27 : decode cX10_goFolded 27 = .ok (.iload_n 2, 1) := by decide +kernel
theorem dX10_goFolded_28 : decode cX10_goFolded 28 = .ok (.iaload, 1) := by decide +kernel
theorem dX10_goFolded_29 : decode cX10_goFolded 29 = .ok (.iconst 2, 1) := by decide +kernel
theorem dX10_goFolded_30 : decode cX10_goFolded 30 = .ok (.if_icmp .ne 9, 3) := by decide +kernel
theorem dX10_goFolded_33 : decode cX10_goFolded 33 = .ok (.aload_n 0, 1) := by decide +kernel
theorem dX10_goFolded_34 : decode cX10_goFolded 34 = .ok (.iload_n 2, 1) := by decide +kernel
theorem dX10_goFolded_35 : decode cX10_goFolded 35 = .ok (.iload_n 1, 1) := by decide +kernel
theorem dX10_goFolded_36 : decode cX10_goFolded 36 = .ok (.invokevirtual 182, 3) := by decide +kernel
theorem dX10_goFolded_39 : decode cX10_goFolded 39 = .ok (.iinc 2 1, 3) := by decide +kernel
theorem dX10_goFolded_42 : decode cX10_goFolded 42 = .ok (.goto (-30), 3) := by decide +kernel
theorem dX10_goFolded_45 : decode cX10_goFolded 45 = .ok (.iconst 0, 1) := by decide +kernel
theorem dX10_goFolded_46 : decode cX10_goFolded 46 = .ok (.istore_n 2, 1) := by decide +kernel
theorem dX10_goFolded_47 : decode cX10_goFolded 47 = .ok (.iload_n 2, 1) := by decide +kernel
theorem dX10_goFolded_48 : decode cX10_goFolded 48 = .ok (.iconst 4, 1) := by decide +kernel
theorem dX10_goFolded_49 : decode cX10_goFolded 49 = .ok (.if_icmp .ge 41, 3) := by decide +kernel
theorem dX10_goFolded_52 : decode cX10_goFolded 52 = .ok (.aload_n 0, 1) := by decide +kernel
theorem dX10_goFolded_53 : decode cX10_goFolded 53 = .ok (.iload_n 2, 1) := by decide +kernel
theorem dX10_goFolded_54 : decode cX10_goFolded 54 = .ok (.iconst 2, 1) := by decide +kernel
theorem dX10_goFolded_55 : decode cX10_goFolded 55 = .ok (.idiv, 1) := by decide +kernel
theorem dX10_goFolded_56 : decode cX10_goFolded 56 = .ok (.invokevirtual 195, 3) := by decide +kernel
theorem dX10_goFolded_59 : decode cX10_goFolded 59 = .ok (.istore_n 3, 1) := by decide +kernel
theorem dX10_goFolded_60 : decode cX10_goFolded 60 = .ok (.iload_n 3, 1) := by decide +kernel
theorem dX10_goFolded_61 : decode cX10_goFolded 61 = .ok (.ifCond .lt 23, 3) := by decide +kernel
theorem dX10_goFolded_64 : decode cX10_goFolded 64 = .ok (.aload_n 0, 1) := by decide +kernel
theorem dX10_goFolded_65 : decode cX10_goFolded 65 = .ok (.getfield 37, 3) := by decide +kernel
theorem dX10_goFolded_68 : decode cX10_goFolded 68 = .ok (.iload_n 3, 1) := by decide +kernel
theorem dX10_goFolded_69 : decode cX10_goFolded 69 = .ok (.iload_n 1, 1) := by decide +kernel
theorem dX10_goFolded_70 : decode cX10_goFolded 70 = .ok (.aload_n 0, 1) := by decide +kernel
theorem dX10_goFolded_71 : decode cX10_goFolded 71 = .ok (.getfield 16, 3) := by decide +kernel
theorem dX10_goFolded_74 : decode cX10_goFolded 74 = .ok (.iload_n 3, 1) := by decide +kernel
theorem dX10_goFolded_75 : decode cX10_goFolded 75 = .ok (.iaload, 1) := by decide +kernel
theorem dX10_goFolded_76 : decode cX10_goFolded 76 = .ok (.isub, 1) := by decide +kernel
theorem dX10_goFolded_77 : decode cX10_goFolded 77 = .ok (.iastore, 1) := by decide +kernel
theorem dX10_goFolded_78 : decode cX10_goFolded 78 = .ok (.aload_n 0, 1) := by decide +kernel
theorem dX10_goFolded_79 : decode cX10_goFolded 79 = .ok (.iload_n 3, 1) := by decide +kernel
theorem dX10_goFolded_80 : decode cX10_goFolded 80 = .ok (.iload_n 1, 1) := by decide +kernel
theorem dX10_goFolded_81 : decode cX10_goFolded 81 = .ok (.invokevirtual 182, 3) := by decide +kernel
theorem dX10_goFolded_84 : decode cX10_goFolded 84 = .ok (.iinc 2 1, 3) := by decide +kernel
theorem dX10_goFolded_87 : decode cX10_goFolded 87 = .ok (.goto (-40), 3) := by decide +kernel
theorem dX10_goFolded_90 : decode cX10_goFolded 90 = .ok (.return_, 1) := by decide +kernel
theorem dX10_goTo_0 : decode cX10_goTo 0 = .ok (.aload_n 0, 1) := by decide +kernel
theorem dX10_goTo_1 : decode cX10_goTo 1 = .ok (.iconst 0, 1) := by decide +kernel
theorem dX10_goTo_2 : decode cX10_goTo 2 = .ok (.putfield 176, 3) := by decide +kernel
theorem dX10_goTo_5 : decode cX10_goTo 5 = .ok (.aload_n 0, 1) := by decide +kernel
theorem dX10_goTo_6 : decode cX10_goTo 6 = .ok (.iconst 0, 1) := by decide +kernel
theorem dX10_goTo_7 : decode cX10_goTo 7 = .ok (.putfield 173, 3) := by decide +kernel
theorem dX10_goTo_10 : decode cX10_goTo 10 = .ok (.aload_n 0, 1) := by decide +kernel
theorem dX10_goTo_11 : decode cX10_goTo 11 = .ok (.iconst 0, 1) := by decide +kernel
theorem dX10_goTo_12 : decode cX10_goTo 12 = .ok (.putfield 170, 3) := by decide +kernel
theorem dX10_goTo_15 : decode cX10_goTo 15 = .ok (.aload_n 0, 1) := by decide +kernel
theorem dX10_goTo_16 : decode cX10_goTo 16 = .ok (.iconst 0, 1) := by decide +kernel
theorem dX10_goTo_17 : decode cX10_goTo 17 = .ok (.putfield 186, 3) := by decide +kernel
theorem dX10_goTo_20 : decode cX10_goTo 20 = .ok (.aload_n 0, 1) := by decide +kernel
theorem dX10_goTo_21 : decode cX10_goTo 21 = .ok (.iconst 0, 1) := by decide +kernel
theorem dX10_goTo_22 : decode cX10_goTo 22 = .ok (.putfield 179, 3) := by decide +kernel
theorem dX10_goTo_25 : decode cX10_goTo 25 = .ok (.aload_n 0, 1) := by decide +kernel
theorem dX10_goTo_26 : decode cX10_goTo 26 = .ok (.iconst 0, 1) := by decide +kernel
theorem dX10_goTo_27 : decode cX10_goTo 27 = .ok (.putfield 204, 3) := by decide +kernel
theorem dX10_goTo_30 : decode cX10_goTo 30 = .ok (.iconst 0, 1) := by decide +kernel
theorem dX10_goTo_31 : decode cX10_goTo 31 = .ok (.istore_n 2, 1) := by decide +kernel
theorem dX10_goTo_32 : decode cX10_goTo 32 = .ok (.iload_n 2, 1) := by decide +kernel
theorem dX10_goTo_33 : decode cX10_goTo 33 = .ok (.bipush 12, 2) := by decide +kernel
theorem dX10_goTo_35 : decode cX10_goTo 35 = .ok (.if_icmp .ge 68, 3) := by decide +kernel
theorem dX10_goTo_38 : decode cX10_goTo 38 = .ok (.aload_n 0, 1) := by decide +kernel
theorem dX10_goTo_39 : decode cX10_goTo 39 = .ok (.getfield 25, 3) := by decide +kernel
theorem dX10_goTo_42 : decode cX10_goTo 42 = .ok (.iload_n 2, 1) := by decide +kernel
theorem dX10_goTo_43 : decode cX10_goTo 43 = .ok (.iconst 0, 1) := by decide +kernel
theorem dX10_goTo_44 : decode cX10_goTo 44 = .ok (.iastore, 1) := by decide +kernel
theorem dX10_goTo_45 : decode cX10_goTo 45 = .ok (.aload_n 0, 1) := by decide +kernel
theorem dX10_goTo_46 : decode cX10_goTo 46 = .ok (.getfield 28, 3) := by decide +kernel
theorem dX10_goTo_49 : decode cX10_goTo 49 = .ok (.iload_n 2, 1) := by decide +kernel
theorem dX10_goTo_50 : decode cX10_goTo 50 = .ok (.bipush (-4), 2) := by decide +kernel
theorem dX10_goTo_52 : decode cX10_goTo 52 = .ok (.iastore, 1) := by decide +kernel
theorem dX10_goTo_53 : decode cX10_goTo 53 = .ok (.aload_n 0, 1) := by decide +kernel
theorem dX10_goTo_54 : decode cX10_goTo 54 = .ok (.getfield 31, 3) := by decide +kernel
theorem dX10_goTo_57 : decode cX10_goTo 57 = .ok (.iload_n 2, 1) := by decide +kernel
theorem dX10_goTo_58 : decode cX10_goTo 58 = .ok (.bipush (-4), 2) := by decide +kernel
theorem dX10_goTo_60 : decode cX10_goTo 60 = .ok (.iastore, 1) := by decide +kernel
theorem dX10_goTo_61 : decode cX10_goTo 61 = .ok (.aload_n 0, 1) := by decide +kernel
theorem dX10_goTo_62 : decode cX10_goTo 62 = .ok (.getfield 34, 3) := by decide +kernel
theorem dX10_goTo_65 : decode cX10_goTo 65 = .ok (.iload_n 2, 1) := by decide +kernel
theorem dX10_goTo_66 : decode cX10_goTo 66 = .ok (.bipush (-4), 2) := by decide +kernel
theorem dX10_goTo_68 : decode cX10_goTo 68 = .ok (.iastore, 1) := by decide +kernel
theorem dX10_goTo_69 : decode cX10_goTo 69 = .ok (.aload_n 0, 1) := by decide +kernel
theorem dX10_goTo_70 : decode cX10_goTo 70 = .ok (.getfield 37, 3) := by decide +kernel
theorem dX10_goTo_73 : decode cX10_goTo 73 = .ok (.iload_n 2, 1) := by decide +kernel
theorem dX10_goTo_74 : decode cX10_goTo 74 = .ok (.iconst 0, 1) := by decide +kernel
theorem dX10_goTo_75 : decode cX10_goTo 75 = .ok (.iastore, 1) := by decide +kernel
theorem dX10_goTo_76 : decode cX10_goTo 76 = .ok (.aload_n 0, 1) := by decide +kernel
theorem dX10_goTo_77 : decode cX10_goTo 77 = .ok (.getfield 40, 3) := by decide +kernel
theorem dX10_goTo_80 : decode cX10_goTo 80 = .ok (.iload_n 2, 1) := by decide +kernel
theorem dX10_goTo_81 : decode cX10_goTo 81 = .ok (.iconst 0, 1) := by decide +kernel
theorem dX10_goTo_82 : decode cX10_goTo 82 = .ok (.iastore, 1) := by decide +kernel
theorem dX10_goTo_83 : decode cX10_goTo 83 = .ok (.aload_n 0, 1) := by decide +kernel
theorem dX10_goTo_84 : decode cX10_goTo 84 = .ok (.getfield 43, 3) := by decide +kernel
theorem dX10_goTo_87 : decode cX10_goTo 87 = .ok (.iload_n 2, 1) := by decide +kernel
theorem dX10_goTo_88 : decode cX10_goTo 88 = .ok (.iconst 0, 1) := by decide +kernel
theorem dX10_goTo_89 : decode cX10_goTo 89 = .ok (.iastore, 1) := by decide +kernel
theorem dX10_goTo_90 : decode cX10_goTo 90 = .ok (.aload_n 0, 1) := by decide +kernel
theorem dX10_goTo_91 : decode cX10_goTo 91 = .ok (.getfield 46, 3) := by decide +kernel
theorem dX10_goTo_94 : decode cX10_goTo 94 = .ok (.iload_n 2, 1) := by decide +kernel
theorem dX10_goTo_95 : decode cX10_goTo 95 = .ok (.iconst 0, 1) := by decide +kernel
theorem dX10_goTo_96 : decode cX10_goTo 96 = .ok (.iastore, 1) := by decide +kernel
theorem dX10_goTo_97 : decode cX10_goTo 97 = .ok (.iinc 2 1, 3) := by decide +kernel
theorem dX10_goTo_100 : decode cX10_goTo 100 = .ok (.goto (-68), 3) := by decide +kernel
theorem dX10_goTo_103 : decode cX10_goTo 103 = .ok (.iconst 0, 1) := by decide +kernel
theorem dX10_goTo_104 : decode cX10_goTo 104 = .ok (.istore_n 2, 1) := by decide +kernel
theorem dX10_goTo_105 : decode cX10_goTo 105 = .ok (.iload_n 2, 1) := by decide +kernel
theorem dX10_goTo_106 : decode cX10_goTo 106 = .ok (.iload_n 1, 1) := by decide +kernel
theorem dX10_goTo_107 : decode cX10_goTo 107 = .ok (.if_icmp .gt 146, 3) := by decide +kernel
theorem dX10_goTo_110 : decode cX10_goTo 110 = .ok (.iconst 0, 1) := by decide +kernel
theorem dX10_goTo_111 : decode cX10_goTo 111 = .ok (.istore_n 3, 1) := by decide +kernel
theorem dX10_goTo_112 : decode cX10_goTo 112 = .ok (.iload_n 3, 1) := by decide +kernel
theorem dX10_goTo_113 : decode cX10_goTo 113 = .ok (.aload_n 0, 1) := by decide +kernel
theorem dX10_goTo_114 : decode cX10_goTo 114 = .ok (.getfield 7, 3) := by decide +kernel
theorem dX10_goTo_117 : decode cX10_goTo 117 = .ok (.bipush 9, 2) := by decide +kernel
theorem dX10_goTo_119 : decode cX10_goTo 119 = .ok (.iaload, 1) := by decide +kernel
theorem dX10_goTo_120 : decode cX10_goTo 120 = .ok (.if_icmp .ge 43, 3) := by decide +kernel
theorem dX10_goTo_123 : decode cX10_goTo 123 = .ok (.aload_n 0, 1) := by decide +kernel
theorem dX10_goTo_124 : decode cX10_goTo 124 = .ok (.getfield 25, 3) := by decide +kernel
theorem dX10_goTo_127 : decode cX10_goTo 127 = .ok (.iload_n 3, 1) := by decide +kernel
theorem dX10_goTo_128 : decode cX10_goTo 128 = .ok (.aload_n 0, 1) := by decide +kernel
theorem dX10_goTo_129 : decode cX10_goTo 129 = .ok (.getfield 16, 3) := by decide +kernel
theorem dX10_goTo_132 : decode cX10_goTo 132 = .ok (.iload_n 3, 1) := by decide +kernel
theorem dX10_goTo_133 : decode cX10_goTo 133 = .ok (.iaload, 1) := by decide +kernel
theorem dX10_goTo_134 : decode cX10_goTo 134 = .ok (.iload_n 2, 1) := by decide +kernel
theorem dX10_goTo_135 : decode cX10_goTo 135 = .ok (.if_icmp .ne 15, 3) := by decide +kernel
theorem dX10_goTo_138 : decode cX10_goTo 138 = .ok (.iload_n 3, 1) := by decide +kernel
theorem dX10_goTo_139 : decode cX10_goTo 139 = .ok (.aload_n 0, 1) := by decide +kernel
theorem dX10_goTo_140 : decode cX10_goTo 140 = .ok (.getfield 90, 3) := by decide +kernel
theorem dX10_goTo_143 : decode cX10_goTo 143 = .ok (.if_icmp .eq 7, 3) := by decide +kernel
theorem dX10_goTo_146 : decode cX10_goTo 146 = .ok (.iconst 1, 1) := by decide +kernel
theorem dX10_goTo_147 : decode cX10_goTo 147 = .ok (.goto 9, 3) := by decide +kernel
theorem dX10_goTo_150 : decode cX10_goTo 150 = .ok (.aload_n 0, 1) := by decide +kernel
theorem dX10_goTo_151 : decode cX10_goTo 151 = .ok (.getfield 25, 3) := by decide +kernel
theorem dX10_goTo_154 : decode cX10_goTo 154 = .ok (.iload_n 3, 1) := by decide +kernel
theorem dX10_goTo_155 : decode cX10_goTo 155 = .ok (.iaload, 1) := by decide +kernel
theorem dX10_goTo_156 : decode cX10_goTo 156 = .ok (.iastore, 1) := by decide +kernel
theorem dX10_goTo_157 : decode cX10_goTo 157 = .ok (.iinc 3 1, 3) := by decide +kernel
theorem dX10_goTo_160 : decode cX10_goTo 160 = .ok (.goto (-48), 3) := by decide +kernel
theorem dX10_goTo_163 : decode cX10_goTo 163 = .ok (.iload_n 2, 1) := by decide +kernel
theorem dX10_goTo_164 : decode cX10_goTo 164 = .ok (.aload_n 0, 1) := by decide +kernel
theorem dX10_goTo_165 : decode cX10_goTo 165 = .ok (.getfield 13, 3) := by decide +kernel
theorem dX10_goTo_168 : decode cX10_goTo 168 = .ok (.bipush 8, 2) := by decide +kernel
theorem dX10_goTo_170 : decode cX10_goTo 170 = .ok (.iaload, 1) := by decide +kernel
theorem dX10_goTo_171 : decode cX10_goTo 171 = .ok (.if_icmp .lt 11, 3) := by decide +kernel
theorem dX10_goTo_174 : decode cX10_goTo 174 = .ok (.aload_n 0, 1) := by decide +kernel
theorem dX10_goTo_175 : decode cX10_goTo 175 = .ok (.iload_n 2, 1) := by decide +kernel
theorem dX10_goTo_176 : decode cX10_goTo 176 = .ok (.invokevirtual 207, 3) := by decide +kernel
theorem dX10_goTo_179 : decode cX10_goTo 179 = .ok (.goto 33, 3) := by decide +kernel
theorem dX10_goTo_182 : decode cX10_goTo 182 = .ok (.aload_n 0, 1) := by decide +kernel
theorem dX10_goTo_183 : decode cX10_goTo 183 = .ok (.invokevirtual 211, 3) := by decide +kernel
theorem dX10_goTo_186 : decode cX10_goTo 186 = .ok (.iconst 0, 1) := by decide +kernel
theorem dX10_goTo_187 : decode cX10_goTo 187 = .ok (.istore_n 3, 1) := by decide +kernel
theorem dX10_goTo_188 : decode cX10_goTo 188 = .ok (.iload_n 3, 1) := by decide +kernel
theorem dX10_goTo_189 : decode cX10_goTo 189 = .ok (.aload_n 0, 1) := by decide +kernel
theorem dX10_goTo_190 : decode cX10_goTo 190 = .ok (.getfield 173, 3) := by decide +kernel
theorem dX10_goTo_193 : decode cX10_goTo 193 = .ok (.if_icmp .ge 14, 3) := by decide +kernel
theorem dX10_goTo_196 : decode cX10_goTo 196 = .ok (.aload_n 0, 1) := by decide +kernel
theorem dX10_goTo_197 : decode cX10_goTo 197 = .ok (.iload_n 2, 1) := by decide +kernel
theorem dX10_goTo_198 : decode cX10_goTo 198 = .ok (.invokevirtual 214, 3) := by decide +kernel
theorem dX10_goTo_201 : decode cX10_goTo 201 = .ok (.iinc 3 1, 3) := by decide +kernel
theorem dX10_goTo_204 : decode cX10_goTo 204 = .ok (.goto (-16), 3) := by decide +kernel
theorem dX10_goTo_207 : decode cX10_goTo 207 = .ok (.aload_n 0, 1) := by decide +kernel
theorem dX10_goTo_208 : decode cX10_goTo 208 = .ok (.iload_n 2, 1) := by decide +kernel
theorem dX10_goTo_209 : decode cX10_goTo 209 = .ok (.invokevirtual 217, 3) := by decide +kernel
theorem dX10_goTo_212 : decode cX10_goTo 212 = .ok (.aload_n 0, 1) := by decide +kernel
theorem dX10_goTo_213 : decode cX10_goTo 213 = .ok (.dup, 1) := by decide +kernel
theorem dX10_goTo_214 : decode cX10_goTo 214 = .ok (.getfield 204, 3) := by decide +kernel
theorem dX10_goTo_217 : decode cX10_goTo 217 = .ok (.aload_n 0, 1) := by decide +kernel
theorem dX10_goTo_218 : decode cX10_goTo 218 = .ok (.getfield 173, 3) := by decide +kernel
theorem dX10_goTo_221 : decode cX10_goTo 221 = .ok (.ifCond .ne 21, 3) := by decide +kernel
theorem dX10_goTo_224 : decode cX10_goTo 224 = .ok (.aload_n 0, 1) := by decide +kernel
theorem dX10_goTo_225 : decode cX10_goTo 225 = .ok (.iconst 1, 1) := by decide +kernel
theorem dX10_goTo_226 : decode cX10_goTo 226 = .ok (.invokevirtual 220, 3) := by decide +kernel
theorem dX10_goTo_229 : decode cX10_goTo 229 = .ok (.aload_n 0, 1) := by decide +kernel
theorem dX10_goTo_230 : decode cX10_goTo 230 = .ok (.iconst 2, 1) := by decide +kernel
theorem dX10_goTo_231 : decode cX10_goTo 231 = .ok (.invokevirtual 220, 3) := by decide +kernel
theorem dX10_goTo_234 : decode cX10_goTo 234 = .ok (.ior, 1) := by decide +kernel
theorem dX10_goTo_235 : decode cX10_goTo 235 = .ok (.ifCond .eq 7, 3) := by decide +kernel
theorem dX10_goTo_238 : decode cX10_goTo 238 = .ok (.iconst 1, 1) := by decide +kernel
theorem dX10_goTo_239 : decode cX10_goTo 239 = .ok (.goto 4, 3) := by decide +kernel
theorem dX10_goTo_242 : decode cX10_goTo 242 = .ok (.iconst 0, 1) := by decide +kernel
theorem dX10_goTo_243 : decode cX10_goTo 243 = .ok (.iadd, 1) := by decide +kernel
theorem dX10_goTo_244 : decode cX10_goTo 244 = .ok (.putfield 204, 3) := by decide +kernel
theorem dX10_goTo_247 : decode cX10_goTo 247 = .ok (.iinc 2 1, 3) := by decide +kernel
theorem dX10_goTo_250 : decode cX10_goTo 250 = .ok (.goto (-145), 3) := by decide +kernel
theorem dX10_goTo_253 : decode cX10_goTo 253 = .ok (.iconst 0, 1) := by decide +kernel
theorem dX10_goTo_254 : decode cX10_goTo 254 = .ok (.istore_n 2, 1) := by decide +kernel
theorem dX10_goTo_255 : decode cX10_goTo 255 = .ok (.iload_n 2, 1) := by decide +kernel
theorem dX10_goTo_256 : decode cX10_goTo 256 = .ok (.aload_n 0, 1) := by decide +kernel
theorem dX10_goTo_257 : decode cX10_goTo 257 = .ok (.getfield 7, 3) := by decide +kernel
theorem dX10_goTo_260 : decode cX10_goTo 260 = .ok (.bipush 9, 2) := by decide +kernel
theorem dX10_goTo_262 : decode cX10_goTo 262 = .ok (.iaload, 1) := by decide +kernel
theorem dX10_goTo_263 : decode cX10_goTo 263 = .ok (.if_icmp .ge 43, 3) := by decide +kernel
theorem dX10_goTo_266 : decode cX10_goTo 266 = .ok (.aload_n 0, 1) := by decide +kernel
theorem dX10_goTo_267 : decode cX10_goTo 267 = .ok (.getfield 37, 3) := by decide +kernel
theorem dX10_goTo_270 : decode cX10_goTo 270 = .ok (.iload_n 2, 1) := by decide +kernel
theorem dX10_goTo_271 : decode cX10_goTo 271 = .ok (.aload_n 0, 1) := by decide +kernel
theorem dX10_goTo_272 : decode cX10_goTo 272 = .ok (.getfield 25, 3) := by decide +kernel
theorem dX10_goTo_275 : decode cX10_goTo 275 = .ok (.iload_n 2, 1) := by decide +kernel
theorem dX10_goTo_276 : decode cX10_goTo 276 = .ok (.iaload, 1) := by decide +kernel
theorem dX10_goTo_277 : decode cX10_goTo 277 = .ok (.iconst 1, 1) := by decide +kernel
theorem dX10_goTo_278 : decode cX10_goTo 278 = .ok (.if_icmp .ne 15, 3) := by decide +kernel
theorem dX10_goTo_281 : decode cX10_goTo 281 = .ok (.bipush 120, 2) := by decide +kernel
theorem dX10_goTo_283 : decode cX10_goTo 283 = .ok (.aload_n 0, 1) := by decide +kernel
theorem dX10_goTo_284 : decode cX10_goTo 284 = .ok (.getfield 16, 3) := by decide +kernel
theorem dX10_goTo_287 : decode cX10_goTo 287 = .ok (.iload_n 2, 1) := by decide +kernel
theorem dX10_goTo_288 : decode cX10_goTo 288 = .ok (.iaload, 1) := by decide +kernel
theorem dX10_goTo_289 : decode cX10_goTo 289 = .ok (.isub, 1) := by decide +kernel
theorem dX10_goTo_290 : decode cX10_goTo 290 = .ok (.goto 9, 3) := by decide +kernel
theorem dX10_goTo_293 : decode cX10_goTo 293 = .ok (.aload_n 0, 1) := by decide +kernel
theorem dX10_goTo_294 : decode cX10_goTo 294 = .ok (.getfield 37, 3) := by decide +kernel
theorem dX10_goTo_297 : decode cX10_goTo 297 = .ok (.iload_n 2, 1) := by decide +kernel
theorem dX10_goTo_298 : decode cX10_goTo 298 = .ok (.iaload, 1) := by decide +kernel
theorem dX10_goTo_299 : decode cX10_goTo 299 = .ok (.iastore, 1) := by decide +kernel
theorem dX10_goTo_300 : decode cX10_goTo 300 = .ok (.iinc 2 1, 3) := by decide +kernel
theorem dX10_goTo_303 : decode cX10_goTo 303 = .ok (.goto (-48), 3) := by decide +kernel
theorem dX10_goTo_306 : decode cX10_goTo 306 = .ok (.return_, 1) := by decide +kernel
theorem dX10_run_0 : decode cX10_run 0 = .ok (.aload_n 0, 1) := by decide +kernel
theorem dX10_run_1 : decode cX10_run 1 = .ok (.bipush 119, 2) := by decide +kernel
theorem dX10_run_3 : decode cX10_run 3 = .ok (.invokevirtual 223, 3) := by decide +kernel
theorem dX10_run_6 : decode cX10_run 6 = .ok (.return_, 1) := by decide +kernel
theorem dX10_lastThrough_0 : decode cX10_lastThrough 0 = .ok (.iconst 0, 1) := by decide +kernel
theorem dX10_lastThrough_1 : decode cX10_lastThrough 1 = .ok (.istore_n 1, 1) := by decide +kernel
theorem dX10_lastThrough_2 : decode cX10_lastThrough 2 = .ok (.iconst 0, 1) := by decide +kernel
theorem dX10_lastThrough_3 : decode cX10_lastThrough 3 = .ok (.istore_n 2, 1) := by decide +kernel
theorem dX10_lastThrough_4 : decode cX10_lastThrough 4 = .ok (.iload_n 2, 1) := by decide +kernel
theorem dX10_lastThrough_5 : decode cX10_lastThrough 5 = .ok (.aload_n 0, 1) := by decide +kernel
theorem dX10_lastThrough_6 : decode cX10_lastThrough 6 = .ok (.getfield 7, 3) := by decide +kernel
theorem dX10_lastThrough_9 : decode cX10_lastThrough 9 = .ok (.bipush 9, 2) := by decide +kernel
theorem dX10_lastThrough_11 : decode cX10_lastThrough 11 = .ok (.iaload, 1) := by decide +kernel
theorem dX10_lastThrough_12 : decode cX10_lastThrough 12 = .ok (.if_icmp .ge 53, 3) := by decide +kernel
theorem dX10_lastThrough_15 : decode cX10_lastThrough 15 = .ok (.iload_n 2, 1) := by decide +kernel
theorem dX10_lastThrough_16 : decode cX10_lastThrough 16 = .ok (.aload_n 0, 1) := by decide +kernel
theorem dX10_lastThrough_17 : decode cX10_lastThrough 17 = .ok (.getfield 90, 3) := by decide +kernel
theorem dX10_lastThrough_20 : decode cX10_lastThrough 20 = .ok (.if_icmp .ne 7, 3) := by decide +kernel
theorem dX10_lastThrough_23 : decode cX10_lastThrough 23 = .ok (.iconst 0, 1) := by decide +kernel
theorem dX10_lastThrough_24 : decode cX10_lastThrough 24 = .ok (.goto 23, 3) := by decide +kernel
theorem dX10_lastThrough_27 : decode cX10_lastThrough 27 = .ok (.aload_n 0, 1) := by decide +kernel
theorem dX10_lastThrough_28 : decode cX10_lastThrough 28 = .ok (.getfield 34, 3) := by decide +kernel
theorem dX10_lastThrough_31 : decode cX10_lastThrough 31 = .ok (.iload_n 2, 1) := by decide +kernel
theorem dX10_lastThrough_32 : decode cX10_lastThrough 32 = .ok (.iaload, 1) := by decide +kernel
theorem dX10_lastThrough_33 : decode cX10_lastThrough 33 = .ok (.ifCond .ge 8, 3) := by decide +kernel
theorem dX10_lastThrough_36 : decode cX10_lastThrough 36 = .ok (.bipush 120, 2) := by decide +kernel
theorem dX10_lastThrough_38 : decode cX10_lastThrough 38 = .ok (.goto 9, 3) := by decide +kernel
theorem dX10_lastThrough_41 : decode cX10_lastThrough 41 = .ok (.aload_n 0, 1) := by decide +kernel
theorem dX10_lastThrough_42 : decode cX10_lastThrough 42 = .ok (.getfield 34, 3) := by decide +kernel
theorem dX10_lastThrough_45 : decode cX10_lastThrough 45 = .ok (.iload_n 2, 1) := by decide +kernel
theorem dX10_lastThrough_46 : decode cX10_lastThrough 46 = .ok (.iaload, 1) := by decide +kernel
theorem dX10_lastThrough_47 : decode cX10_lastThrough 47 = .ok (.istore_n 3, 1) := by decide +kernel
theorem dX10_lastThrough_48 : decode cX10_lastThrough 48 = .ok (.iload_n 3, 1) := by decide +kernel
theorem dX10_lastThrough_49 : decode cX10_lastThrough 49 = .ok (.iload_n 1, 1) := by decide +kernel
theorem dX10_lastThrough_50 : decode cX10_lastThrough 50 = .ok (.if_icmp .le 7, 3) := by decide +kernel
theorem dX10_lastThrough_53 : decode cX10_lastThrough 53 = .ok (.iload_n 3, 1) := by decide +kernel
theorem dX10_lastThrough_54 : decode cX10_lastThrough 54 = .ok (.goto 4, 3) := by decide +kernel
theorem dX10_lastThrough_57 : decode cX10_lastThrough 57 = .ok (.iload_n 1, 1) := by decide +kernel
theorem dX10_lastThrough_58 : decode cX10_lastThrough 58 = .ok (.istore_n 1, 1) := by decide +kernel
theorem dX10_lastThrough_59 : decode cX10_lastThrough 59 = .ok (.iinc 2 1, 3) := by decide +kernel
theorem dX10_lastThrough_62 : decode cX10_lastThrough 62 = .ok (.goto (-58), 3) := by decide +kernel
theorem dX10_lastThrough_65 : decode cX10_lastThrough 65 = .ok (.iload_n 1, 1) := by decide +kernel
theorem dX10_lastThrough_66 : decode cX10_lastThrough 66 = .ok (.ireturn, 1) := by decide +kernel
theorem dX10_allWaits_0 : decode cX10_allWaits 0 = .ok (.iconst 0, 1) := by decide +kernel
theorem dX10_allWaits_1 : decode cX10_allWaits 1 = .ok (.istore_n 1, 1) := by decide +kernel
theorem dX10_allWaits_2 : decode cX10_allWaits 2 = .ok (.iconst 0, 1) := by decide +kernel
theorem dX10_allWaits_3 : decode cX10_allWaits 3 = .ok (.istore_n 2, 1) := by decide +kernel
theorem dX10_allWaits_4 : decode cX10_allWaits 4 = .ok (.iload_n 2, 1) := by decide +kernel
theorem dX10_allWaits_5 : decode cX10_allWaits 5 = .ok (.aload_n 0, 1) := by decide +kernel
theorem dX10_allWaits_6 : decode cX10_allWaits 6 = .ok (.getfield 7, 3) := by decide +kernel
theorem dX10_allWaits_9 : decode cX10_allWaits 9 = .ok (.bipush 9, 2) := by decide +kernel
theorem dX10_allWaits_11 : decode cX10_allWaits 11 = .ok (.iaload, 1) := by decide +kernel
theorem dX10_allWaits_12 : decode cX10_allWaits 12 = .ok (.if_icmp .ge 18, 3) := by decide +kernel
theorem dX10_allWaits_15 : decode cX10_allWaits 15 = .ok (.iload_n 1, 1) := by decide +kernel
theorem dX10_allWaits_16 : decode cX10_allWaits 16 = .ok (.aload_n 0, 1) := by decide +kernel
theorem dX10_allWaits_17 : decode cX10_allWaits 17 = .ok (.getfield 37, 3) := by decide +kernel
theorem dX10_allWaits_20 : decode cX10_allWaits 20 = .ok (.iload_n 2, 1) := by decide +kernel
theorem dX10_allWaits_21 : decode cX10_allWaits 21 = .ok (.iaload, 1) := by decide +kernel
theorem dX10_allWaits_22 : decode cX10_allWaits 22 = .ok (.iadd, 1) := by decide +kernel
theorem dX10_allWaits_23 : decode cX10_allWaits 23 = .ok (.istore_n 1, 1) := by decide +kernel
theorem dX10_allWaits_24 : decode cX10_allWaits 24 = .ok (.iinc 2 1, 3) := by decide +kernel
theorem dX10_allWaits_27 : decode cX10_allWaits 27 = .ok (.goto (-23), 3) := by decide +kernel
theorem dX10_allWaits_30 : decode cX10_allWaits 30 = .ok (.iload_n 1, 1) := by decide +kernel
theorem dX10_allWaits_31 : decode cX10_allWaits 31 = .ok (.ireturn, 1) := by decide +kernel
theorem dX10_fate_0 : decode cX10_fate 0 = .ok (.aload_n 0, 1) := by decide +kernel
theorem dX10_fate_1 : decode cX10_fate 1 = .ok (.iload_n 1, 1) := by decide +kernel
theorem dX10_fate_2 : decode cX10_fate 2 = .ok (.invokevirtual 119, 3) := by decide +kernel
theorem dX10_fate_5 : decode cX10_fate 5 = .ok (.ifCond .eq 15, 3) := by decide +kernel
theorem dX10_fate_8 : decode cX10_fate 8 = .ok (.iload_n 2, 1) := by decide +kernel
theorem dX10_fate_9 : decode cX10_fate 9 = .ok (.i2l, 1) := by decide +kernel
theorem dX10_fate_10 : decode cX10_fate 10 = .ok (.lconst 0, 1) := by decide +kernel
theorem dX10_fate_11 : decode cX10_fate 11 = .ok (.ldc2_w 226, 3) := by decide +kernel
theorem dX10_fate_14 : decode cX10_fate 14 = .ok (.invokestatic 75, 3) := by decide +kernel
theorem dX10_fate_17 : decode cX10_fate 17 = .ok (.ifCond .ne 5, 3) := by decide +kernel
theorem dX10_fate_20 : decode cX10_fate 20 = .ok (.iconst (-1), 1) := by decide +kernel
theorem dX10_fate_21 : decode cX10_fate 21 = .ok (.ireturn, 1) := by decide +kernel
theorem dX10_fate_22 : decode cX10_fate 22 = .ok (.aload_n 0, 1) := by decide +kernel
theorem dX10_fate_23 : decode cX10_fate 23 = .ok (.invokevirtual 104, 3) := by decide +kernel
theorem dX10_fate_26 : decode cX10_fate 26 = .ok (.aload_n 0, 1) := by decide +kernel
theorem dX10_fate_27 : decode cX10_fate 27 = .ok (.invokevirtual 228, 3) := by decide +kernel
theorem dX10_fate_30 : decode cX10_fate 30 = .ok (.iload_n 2, 1) := by decide +kernel
theorem dX10_fate_31 : decode cX10_fate 31 = .ok (.ifCond .ne 12, 3) := by decide +kernel
theorem dX10_fate_34 : decode cX10_fate 34 = .ok (.aload_n 0, 1) := by decide +kernel
theorem dX10_fate_35 : decode cX10_fate 35 = .ok (.getfield 31, 3) := by decide +kernel
theorem dX10_fate_38 : decode cX10_fate 38 = .ok (.iload_n 1, 1) := by decide +kernel
theorem dX10_fate_39 : decode cX10_fate 39 = .ok (.iaload, 1) := by decide +kernel
theorem dX10_fate_40 : decode cX10_fate 40 = .ok (.goto 37, 3) := by decide +kernel
theorem dX10_fate_43 : decode cX10_fate 43 = .ok (.iload_n 2, 1) := by decide +kernel
theorem dX10_fate_44 : decode cX10_fate 44 = .ok (.iconst 1, 1) := by decide +kernel
theorem dX10_fate_45 : decode cX10_fate 45 = .ok (.if_icmp .ne 12, 3) := by decide +kernel
theorem dX10_fate_48 : decode cX10_fate 48 = .ok (.aload_n 0, 1) := by decide +kernel
theorem dX10_fate_49 : decode cX10_fate 49 = .ok (.getfield 34, 3) := by decide +kernel
theorem dX10_fate_52 : decode cX10_fate 52 = .ok (.iload_n 1, 1) := by decide +kernel
theorem dX10_fate_53 : decode cX10_fate 53 = .ok (.iaload, 1) := by decide +kernel
theorem dX10_fate_54 : decode cX10_fate 54 = .ok (.goto 23, 3) := by decide +kernel
theorem dX10_fate_57 : decode cX10_fate 57 = .ok (.iload_n 2, 1) := by decide +kernel
theorem dX10_fate_58 : decode cX10_fate 58 = .ok (.iconst 2, 1) := by decide +kernel
theorem dX10_fate_59 : decode cX10_fate 59 = .ok (.if_icmp .ne 12, 3) := by decide +kernel
theorem dX10_fate_62 : decode cX10_fate 62 = .ok (.aload_n 0, 1) := by decide +kernel
theorem dX10_fate_63 : decode cX10_fate 63 = .ok (.getfield 37, 3) := by decide +kernel
theorem dX10_fate_66 : decode cX10_fate 66 = .ok (.iload_n 1, 1) := by decide +kernel
theorem dX10_fate_67 : decode cX10_fate 67 = .ok (.iaload, 1) := by decide +kernel
theorem dX10_fate_68 : decode cX10_fate 68 = .ok (.goto 9, 3) := by decide +kernel
theorem dX10_fate_71 : decode cX10_fate 71 = .ok (.aload_n 0, 1) := by decide +kernel
theorem dX10_fate_72 : decode cX10_fate 72 = .ok (.getfield 40, 3) := by decide +kernel
theorem dX10_fate_75 : decode cX10_fate 75 = .ok (.iload_n 1, 1) := by decide +kernel
theorem dX10_fate_76 : decode cX10_fate 76 = .ok (.iaload, 1) := by decide +kernel
theorem dX10_fate_77 : decode cX10_fate 77 = .ok (.ireturn, 1) := by decide +kernel
theorem dX10_at_0 : decode cX10_at 0 = .ok (.iload_n 1, 1) := by decide +kernel
theorem dX10_at_1 : decode cX10_at 1 = .ok (.i2l, 1) := by decide +kernel
theorem dX10_at_2 : decode cX10_at 2 = .ok (.lconst 0, 1) := by decide +kernel
theorem dX10_at_3 : decode cX10_at 3 = .ok (.ldc2_w 111, 3) := by decide +kernel
theorem dX10_at_6 : decode cX10_at 6 = .ok (.invokestatic 75, 3) := by decide +kernel
theorem dX10_at_9 : decode cX10_at 9 = .ok (.ifCond .eq 15, 3) := by decide +kernel
theorem dX10_at_12 : decode cX10_at 12 = .ok (.iload_n 2, 1) := by decide +kernel
theorem dX10_at_13 : decode cX10_at 13 = .ok (.i2l, 1) := by decide +kernel
theorem dX10_at_14 : decode cX10_at 14 = .ok (.lconst 0, 1) := by decide +kernel
theorem dX10_at_15 : decode cX10_at 15 = .ok (.ldc2_w 122, 3) := by decide +kernel
theorem dX10_at_18 : decode cX10_at 18 = .ok (.invokestatic 75, 3) := by decide +kernel
theorem dX10_at_21 : decode cX10_at 21 = .ok (.ifCond .ne 5, 3) := by decide +kernel
theorem dX10_at_24 : decode cX10_at 24 = .ok (.iconst (-1), 1) := by decide +kernel
theorem dX10_at_25 : decode cX10_at 25 = .ok (.ireturn, 1) := by decide +kernel
theorem dX10_at_26 : decode cX10_at 26 = .ok (.aload_n 0, 1) := by decide +kernel
theorem dX10_at_27 : decode cX10_at 27 = .ok (.invokevirtual 104, 3) := by decide +kernel
theorem dX10_at_30 : decode cX10_at 30 = .ok (.aload_n 0, 1) := by decide +kernel
theorem dX10_at_31 : decode cX10_at 31 = .ok (.iload_n 1, 1) := by decide +kernel
theorem dX10_at_32 : decode cX10_at 32 = .ok (.invokevirtual 223, 3) := by decide +kernel
theorem dX10_at_35 : decode cX10_at 35 = .ok (.iload_n 2, 1) := by decide +kernel
theorem dX10_at_36 : decode cX10_at 36 = .ok (.ifCond .ne 10, 3) := by decide +kernel
theorem dX10_at_39 : decode cX10_at 39 = .ok (.aload_n 0, 1) := by decide +kernel
theorem dX10_at_40 : decode cX10_at 40 = .ok (.getfield 176, 3) := by decide +kernel
theorem dX10_at_43 : decode cX10_at 43 = .ok (.goto 45, 3) := by decide +kernel
theorem dX10_at_46 : decode cX10_at 46 = .ok (.iload_n 2, 1) := by decide +kernel
theorem dX10_at_47 : decode cX10_at 47 = .ok (.iconst 1, 1) := by decide +kernel
theorem dX10_at_48 : decode cX10_at 48 = .ok (.if_icmp .ne 10, 3) := by decide +kernel
theorem dX10_at_51 : decode cX10_at 51 = .ok (.aload_n 0, 1) := by decide +kernel
theorem dX10_at_52 : decode cX10_at 52 = .ok (.getfield 173, 3) := by decide +kernel
theorem dX10_at_55 : decode cX10_at 55 = .ok (.goto 33, 3) := by decide +kernel
theorem dX10_at_58 : decode cX10_at 58 = .ok (.iload_n 2, 1) := by decide +kernel
theorem dX10_at_59 : decode cX10_at 59 = .ok (.iconst 2, 1) := by decide +kernel
theorem dX10_at_60 : decode cX10_at 60 = .ok (.if_icmp .ne 11, 3) := by decide +kernel
theorem dX10_at_63 : decode cX10_at 63 = .ok (.aload_n 0, 1) := by decide +kernel
theorem dX10_at_64 : decode cX10_at 64 = .ok (.iconst 2, 1) := by decide +kernel
theorem dX10_at_65 : decode cX10_at 65 = .ok (.invokevirtual 220, 3) := by decide +kernel
theorem dX10_at_68 : decode cX10_at 68 = .ok (.goto 20, 3) := by decide +kernel
theorem dX10_at_71 : decode cX10_at 71 = .ok (.iload_n 2, 1) := by decide +kernel
theorem dX10_at_72 : decode cX10_at 72 = .ok (.iconst 3, 1) := by decide +kernel
theorem dX10_at_73 : decode cX10_at 73 = .ok (.if_icmp .ne 11, 3) := by decide +kernel
theorem dX10_at_76 : decode cX10_at 76 = .ok (.aload_n 0, 1) := by decide +kernel
theorem dX10_at_77 : decode cX10_at 77 = .ok (.iconst 1, 1) := by decide +kernel
theorem dX10_at_78 : decode cX10_at 78 = .ok (.invokevirtual 220, 3) := by decide +kernel
theorem dX10_at_81 : decode cX10_at 81 = .ok (.goto 7, 3) := by decide +kernel
theorem dX10_at_84 : decode cX10_at 84 = .ok (.aload_n 0, 1) := by decide +kernel
theorem dX10_at_85 : decode cX10_at 85 = .ok (.getfield 170, 3) := by decide +kernel
theorem dX10_at_88 : decode cX10_at 88 = .ok (.ireturn, 1) := by decide +kernel
theorem dX10_within_0 : decode cX10_within 0 = .ok (.iload_n 1, 1) := by decide +kernel
theorem dX10_within_1 : decode cX10_within 1 = .ok (.i2l, 1) := by decide +kernel
theorem dX10_within_2 : decode cX10_within 2 = .ok (.lconst 0, 1) := by decide +kernel
theorem dX10_within_3 : decode cX10_within 3 = .ok (.ldc2_w 111, 3) := by decide +kernel
theorem dX10_within_6 : decode cX10_within 6 = .ok (.invokestatic 75, 3) := by decide +kernel
theorem dX10_within_9 : decode cX10_within 9 = .ok (.ifCond .eq 11, 3) := by decide +kernel
theorem dX10_within_12 : decode cX10_within 12 = .ok (.aload_n 0, 1) := by decide +kernel
theorem dX10_within_13 : decode cX10_within 13 = .ok (.iload_n 2, 1) := by decide +kernel
theorem dX10_within_14 : decode cX10_within 14 = .ok (.invokevirtual 98, 3) := by decide +kernel
theorem dX10_within_17 : decode cX10_within 17 = .ok (.ifCond .ne 5, 3) := by decide +kernel
theorem dX10_within_20 : decode cX10_within 20 = .ok (.iconst (-1), 1) := by decide +kernel
theorem dX10_within_21 : decode cX10_within 21 = .ok (.ireturn, 1) := by decide +kernel
theorem dX10_within_22 : decode cX10_within 22 = .ok (.aload_n 0, 1) := by decide +kernel
theorem dX10_within_23 : decode cX10_within 23 = .ok (.invokevirtual 104, 3) := by decide +kernel
theorem dX10_within_26 : decode cX10_within 26 = .ok (.aload_n 0, 1) := by decide +kernel
theorem dX10_within_27 : decode cX10_within 27 = .ok (.iload_n 1, 1) := by decide +kernel
theorem dX10_within_28 : decode cX10_within 28 = .ok (.invokevirtual 223, 3) := by decide +kernel
theorem dX10_within_31 : decode cX10_within 31 = .ok (.aload_n 0, 1) := by decide +kernel
theorem dX10_within_32 : decode cX10_within 32 = .ok (.iload_n 2, 1) := by decide +kernel
theorem dX10_within_33 : decode cX10_within 33 = .ok (.invokevirtual 163, 3) := by decide +kernel
theorem dX10_within_36 : decode cX10_within 36 = .ok (.ireturn, 1) := by decide +kernel
theorem dX10_all_0 : decode cX10_all 0 = .ok (.iload_n 1, 1) := by decide +kernel
theorem dX10_all_1 : decode cX10_all 1 = .ok (.i2l, 1) := by decide +kernel
theorem dX10_all_2 : decode cX10_all 2 = .ok (.lconst 0, 1) := by decide +kernel
theorem dX10_all_3 : decode cX10_all 3 = .ok (.ldc2_w 231, 3) := by decide +kernel
theorem dX10_all_6 : decode cX10_all 6 = .ok (.invokestatic 75, 3) := by decide +kernel
theorem dX10_all_9 : decode cX10_all 9 = .ok (.ifCond .ne 5, 3) := by decide +kernel
theorem dX10_all_12 : decode cX10_all 12 = .ok (.iconst (-1), 1) := by decide +kernel
theorem dX10_all_13 : decode cX10_all 13 = .ok (.ireturn, 1) := by decide +kernel
theorem dX10_all_14 : decode cX10_all 14 = .ok (.aload_n 0, 1) := by decide +kernel
theorem dX10_all_15 : decode cX10_all 15 = .ok (.invokevirtual 104, 3) := by decide +kernel
theorem dX10_all_18 : decode cX10_all 18 = .ok (.aload_n 0, 1) := by decide +kernel
theorem dX10_all_19 : decode cX10_all 19 = .ok (.invokevirtual 228, 3) := by decide +kernel
theorem dX10_all_22 : decode cX10_all 22 = .ok (.iconst 0, 1) := by decide +kernel
theorem dX10_all_23 : decode cX10_all 23 = .ok (.istore_n 2, 1) := by decide +kernel
theorem dX10_all_24 : decode cX10_all 24 = .ok (.iconst 0, 1) := by decide +kernel
theorem dX10_all_25 : decode cX10_all 25 = .ok (.istore_n 3, 1) := by decide +kernel
theorem dX10_all_26 : decode cX10_all 26 = .ok (.iload_n 3, 1) := by decide +kernel
theorem dX10_all_27 : decode cX10_all 27 = .ok (.aload_n 0, 1) := by decide +kernel
theorem dX10_all_28 : decode cX10_all 28 = .ok (.getfield 7, 3) := by decide +kernel
theorem dX10_all_31 : decode cX10_all 31 = .ok (.bipush 9, 2) := by decide +kernel
theorem dX10_all_33 : decode cX10_all 33 = .ok (.iaload, 1) := by decide +kernel
theorem dX10_all_34 : decode cX10_all 34 = .ok (.if_icmp .ge 18, 3) := by decide +kernel
theorem dX10_all_37 : decode cX10_all 37 = .ok (.iload_n 2, 1) := by decide +kernel
theorem dX10_all_38 : decode cX10_all 38 = .ok (.aload_n 0, 1) := by decide +kernel
theorem dX10_all_39 : decode cX10_all 39 = .ok (.getfield 40, 3) := by decide +kernel
theorem dX10_all_42 : decode cX10_all 42 = .ok (.iload_n 3, 1) := by decide +kernel
theorem dX10_all_43 : decode cX10_all 43 = .ok (.iaload, 1) := by decide +kernel
theorem dX10_all_44 : decode cX10_all 44 = .ok (.iadd, 1) := by decide +kernel
theorem dX10_all_45 : decode cX10_all 45 = .ok (.istore_n 2, 1) := by decide +kernel
theorem dX10_all_46 : decode cX10_all 46 = .ok (.iinc 3 1, 3) := by decide +kernel
theorem dX10_all_49 : decode cX10_all 49 = .ok (.goto (-23), 3) := by decide +kernel
theorem dX10_all_52 : decode cX10_all 52 = .ok (.iload_n 1, 1) := by decide +kernel
theorem dX10_all_53 : decode cX10_all 53 = .ok (.tableswitch 70 0 5 #[39, 48, 53, 58, 63, 68], 39) := by decide +kernel
theorem dX10_all_92 : decode cX10_all 92 = .ok (.aload_n 0, 1) := by decide +kernel
theorem dX10_all_93 : decode cX10_all 93 = .ok (.iconst 3, 1) := by decide +kernel
theorem dX10_all_94 : decode cX10_all 94 = .ok (.invokevirtual 220, 3) := by decide +kernel
theorem dX10_all_97 : decode cX10_all 97 = .ok (.invokestatic 233, 3) := by decide +kernel
theorem dX10_all_100 : decode cX10_all 100 = .ok (.ireturn, 1) := by decide +kernel
theorem dX10_all_101 : decode cX10_all 101 = .ok (.aload_n 0, 1) := by decide +kernel
theorem dX10_all_102 : decode cX10_all 102 = .ok (.invokevirtual 236, 3) := by decide +kernel
theorem dX10_all_105 : decode cX10_all 105 = .ok (.ireturn, 1) := by decide +kernel
theorem dX10_all_106 : decode cX10_all 106 = .ok (.aload_n 0, 1) := by decide +kernel
theorem dX10_all_107 : decode cX10_all 107 = .ok (.invokevirtual 239, 3) := by decide +kernel
theorem dX10_all_110 : decode cX10_all 110 = .ok (.ireturn, 1) := by decide +kernel
theorem dX10_all_111 : decode cX10_all 111 = .ok (.aload_n 0, 1) := by decide +kernel
theorem dX10_all_112 : decode cX10_all 112 = .ok (.getfield 186, 3) := by decide +kernel
theorem dX10_all_115 : decode cX10_all 115 = .ok (.ireturn, 1) := by decide +kernel
theorem dX10_all_116 : decode cX10_all 116 = .ok (.aload_n 0, 1) := by decide +kernel
theorem dX10_all_117 : decode cX10_all 117 = .ok (.getfield 179, 3) := by decide +kernel
theorem dX10_all_120 : decode cX10_all 120 = .ok (.ireturn, 1) := by decide +kernel
theorem dX10_all_121 : decode cX10_all 121 = .ok (.iload_n 2, 1) := by decide +kernel
theorem dX10_all_122 : decode cX10_all 122 = .ok (.ireturn, 1) := by decide +kernel
theorem dX10_all_123 : decode cX10_all 123 = .ok (.aload_n 0, 1) := by decide +kernel
theorem dX10_all_124 : decode cX10_all 124 = .ok (.getfield 204, 3) := by decide +kernel
theorem dX10_all_127 : decode cX10_all 127 = .ok (.ireturn, 1) := by decide +kernel
theorem dX10_shared_0 : decode cX10_shared 0 = .ok (.aload_n 0, 1) := by decide +kernel
theorem dX10_shared_1 : decode cX10_shared 1 = .ok (.iload_n 1, 1) := by decide +kernel
theorem dX10_shared_2 : decode cX10_shared 2 = .ok (.invokevirtual 119, 3) := by decide +kernel
theorem dX10_shared_5 : decode cX10_shared 5 = .ok (.ifCond .eq 16, 3) := by decide +kernel
theorem dX10_shared_8 : decode cX10_shared 8 = .ok (.aload_n 0, 1) := by decide +kernel
theorem dX10_shared_9 : decode cX10_shared 9 = .ok (.iload_n 2, 1) := by decide +kernel
theorem dX10_shared_10 : decode cX10_shared 10 = .ok (.invokevirtual 119, 3) := by decide +kernel
theorem dX10_shared_13 : decode cX10_shared 13 = .ok (.ifCond .eq 8, 3) := by decide +kernel
theorem dX10_shared_16 : decode cX10_shared 16 = .ok (.iload_n 1, 1) := by decide +kernel
theorem dX10_shared_17 : decode cX10_shared 17 = .ok (.iload_n 2, 1) := by decide +kernel
theorem dX10_shared_18 : decode cX10_shared 18 = .ok (.if_icmp .ne 5, 3) := by decide +kernel
theorem dX10_shared_21 : decode cX10_shared 21 = .ok (.iconst (-1), 1) := by decide +kernel
theorem dX10_shared_22 : decode cX10_shared 22 = .ok (.ireturn, 1) := by decide +kernel
theorem dX10_shared_23 : decode cX10_shared 23 = .ok (.aload_n 0, 1) := by decide +kernel
theorem dX10_shared_24 : decode cX10_shared 24 = .ok (.invokevirtual 104, 3) := by decide +kernel
theorem dX10_shared_27 : decode cX10_shared 27 = .ok (.aload_n 0, 1) := by decide +kernel
theorem dX10_shared_28 : decode cX10_shared 28 = .ok (.invokevirtual 228, 3) := by decide +kernel
theorem dX10_shared_31 : decode cX10_shared 31 = .ok (.aload_n 0, 1) := by decide +kernel
theorem dX10_shared_32 : decode cX10_shared 32 = .ok (.getfield 46, 3) := by decide +kernel
theorem dX10_shared_35 : decode cX10_shared 35 = .ok (.iload_n 1, 1) := by decide +kernel
theorem dX10_shared_36 : decode cX10_shared 36 = .ok (.iaload, 1) := by decide +kernel
theorem dX10_shared_37 : decode cX10_shared 37 = .ok (.iload_n 2, 1) := by decide +kernel
theorem dX10_shared_38 : decode cX10_shared 38 = .ok (.invokestatic 166, 3) := by decide +kernel
theorem dX10_shared_41 : decode cX10_shared 41 = .ok (.ifCond .eq 7, 3) := by decide +kernel
theorem dX10_shared_44 : decode cX10_shared 44 = .ok (.iconst 1, 1) := by decide +kernel
theorem dX10_shared_45 : decode cX10_shared 45 = .ok (.goto 4, 3) := by decide +kernel
theorem dX10_shared_48 : decode cX10_shared 48 = .ok (.iconst 0, 1) := by decide +kernel
theorem dX10_shared_49 : decode cX10_shared 49 = .ok (.ireturn, 1) := by decide +kernel
theorem dX10_motor_0 : decode cX10_motor 0 = .ok (.iload_n 1, 1) := by decide +kernel
theorem dX10_motor_1 : decode cX10_motor 1 = .ok (.i2l, 1) := by decide +kernel
theorem dX10_motor_2 : decode cX10_motor 2 = .ok (.lconst 0, 1) := by decide +kernel
theorem dX10_motor_3 : decode cX10_motor 3 = .ok (.ldc2_w 111, 3) := by decide +kernel
theorem dX10_motor_6 : decode cX10_motor 6 = .ok (.invokestatic 75, 3) := by decide +kernel
theorem dX10_motor_9 : decode cX10_motor 9 = .ok (.ifCond .ne 5, 3) := by decide +kernel
theorem dX10_motor_12 : decode cX10_motor 12 = .ok (.iconst (-1), 1) := by decide +kernel
theorem dX10_motor_13 : decode cX10_motor 13 = .ok (.ireturn, 1) := by decide +kernel
theorem dX10_motor_14 : decode cX10_motor 14 = .ok (.aload_n 0, 1) := by decide +kernel
theorem dX10_motor_15 : decode cX10_motor 15 = .ok (.invokevirtual 104, 3) := by decide +kernel
theorem dX10_motor_18 : decode cX10_motor 18 = .ok (.iconst 0, 1) := by decide +kernel
theorem dX10_motor_19 : decode cX10_motor 19 = .ok (.istore_n 2, 1) := by decide +kernel
theorem dX10_motor_20 : decode cX10_motor 20 = .ok (.iload_n 2, 1) := by decide +kernel
theorem dX10_motor_21 : decode cX10_motor 21 = .ok (.bipush 20, 2) := by decide +kernel
theorem dX10_motor_23 : decode cX10_motor 23 = .ok (.if_icmp .gt 30, 3) := by decide +kernel
theorem dX10_motor_26 : decode cX10_motor 26 = .ok (.aload_n 0, 1) := by decide +kernel
theorem dX10_motor_27 : decode cX10_motor 27 = .ok (.getfield 13, 3) := by decide +kernel
theorem dX10_motor_30 : decode cX10_motor 30 = .ok (.iconst 3, 1) := by decide +kernel
theorem dX10_motor_31 : decode cX10_motor 31 = .ok (.iload_n 2, 1) := by decide +kernel
theorem dX10_motor_32 : decode cX10_motor 32 = .ok (.iastore, 1) := by decide +kernel
theorem dX10_motor_33 : decode cX10_motor 33 = .ok (.aload_n 0, 1) := by decide +kernel
theorem dX10_motor_34 : decode cX10_motor 34 = .ok (.invokevirtual 228, 3) := by decide +kernel
theorem dX10_motor_37 : decode cX10_motor 37 = .ok (.aload_n 0, 1) := by decide +kernel
theorem dX10_motor_38 : decode cX10_motor 38 = .ok (.invokevirtual 236, 3) := by decide +kernel
theorem dX10_motor_41 : decode cX10_motor 41 = .ok (.iload_n 1, 1) := by decide +kernel
theorem dX10_motor_42 : decode cX10_motor 42 = .ok (.if_icmp .gt 5, 3) := by decide +kernel
theorem dX10_motor_45 : decode cX10_motor 45 = .ok (.iload_n 2, 1) := by decide +kernel
theorem dX10_motor_46 : decode cX10_motor 46 = .ok (.ireturn, 1) := by decide +kernel
theorem dX10_motor_47 : decode cX10_motor 47 = .ok (.iinc 2 1, 3) := by decide +kernel
theorem dX10_motor_50 : decode cX10_motor 50 = .ok (.goto (-30), 3) := by decide +kernel
theorem dX10_motor_53 : decode cX10_motor 53 = .ok (.bipush (-4), 2) := by decide +kernel
theorem dX10_motor_55 : decode cX10_motor 55 = .ok (.ireturn, 1) := by decide +kernel
theorem dX10_warmest_0 : decode cX10_warmest 0 = .ok (.iload_n 1, 1) := by decide +kernel
theorem dX10_warmest_1 : decode cX10_warmest 1 = .ok (.i2l, 1) := by decide +kernel
theorem dX10_warmest_2 : decode cX10_warmest 2 = .ok (.lconst 0, 1) := by decide +kernel
theorem dX10_warmest_3 : decode cX10_warmest 3 = .ok (.ldc2_w 111, 3) := by decide +kernel
theorem dX10_warmest_6 : decode cX10_warmest 6 = .ok (.invokestatic 75, 3) := by decide +kernel
theorem dX10_warmest_9 : decode cX10_warmest 9 = .ok (.ifCond .eq 15, 3) := by decide +kernel
theorem dX10_warmest_12 : decode cX10_warmest 12 = .ok (.iload_n 2, 1) := by decide +kernel
theorem dX10_warmest_13 : decode cX10_warmest 13 = .ok (.i2l, 1) := by decide +kernel
theorem dX10_warmest_14 : decode cX10_warmest 14 = .ok (.lconst 0, 1) := by decide +kernel
theorem dX10_warmest_15 : decode cX10_warmest 15 = .ok (.ldc2_w 226, 3) := by decide +kernel
theorem dX10_warmest_18 : decode cX10_warmest 18 = .ok (.invokestatic 75, 3) := by decide +kernel
theorem dX10_warmest_21 : decode cX10_warmest 21 = .ok (.ifCond .ne 5, 3) := by decide +kernel
theorem dX10_warmest_24 : decode cX10_warmest 24 = .ok (.iconst (-1), 1) := by decide +kernel
theorem dX10_warmest_25 : decode cX10_warmest 25 = .ok (.ireturn, 1) := by decide +kernel
theorem dX10_warmest_26 : decode cX10_warmest 26 = .ok (.aload_n 0, 1) := by decide +kernel
theorem dX10_warmest_27 : decode cX10_warmest 27 = .ok (.invokevirtual 104, 3) := by decide +kernel
theorem dX10_warmest_30 : decode cX10_warmest 30 = .ok (.bipush (-4), 2) := by decide +kernel
theorem dX10_warmest_32 : decode cX10_warmest 32 = .ok (.istore_n 3, 1) := by decide +kernel
theorem dX10_warmest_33 : decode cX10_warmest 33 = .ok (.iconst 0, 1) := by decide +kernel
theorem dX10_warmest_34 : decode cX10_warmest 34 = .ok (.istore 4, 2) := by decide +kernel
theorem dX10_warmest_36 : decode cX10_warmest 36 = .ok (.iconst 0, 1) := by decide +kernel
theorem dX10_warmest_37 : decode cX10_warmest 37 = .ok (.istore 5, 2) := by decide +kernel
theorem dX10_warmest_39 : decode cX10_warmest 39 = .ok (.iload 5, 2) := by decide +kernel
theorem dX10_warmest_41 : decode cX10_warmest 41 = .ok (.bipush 18, 2) := by decide +kernel
theorem dX10_warmest_43 : decode cX10_warmest 43 = .ok (.if_icmp .ge 82, 3) := by decide +kernel
theorem dX10_warmest_46 : decode cX10_warmest 46 = .ok (.aload_n 0, 1) := by decide +kernel
theorem dX10_warmest_47 : decode cX10_warmest 47 = .ok (.getfield 13, 3) := by decide +kernel
theorem dX10_warmest_50 : decode cX10_warmest 50 = .ok (.iconst 0, 1) := by decide +kernel
theorem dX10_warmest_51 : decode cX10_warmest 51 = .ok (.iconst 3, 1) := by decide +kernel
theorem dX10_warmest_52 : decode cX10_warmest 52 = .ok (.iload 5, 2) := by decide +kernel
theorem dX10_warmest_54 : decode cX10_warmest 54 = .ok (.bipush 9, 2) := by decide +kernel
theorem dX10_warmest_56 : decode cX10_warmest 56 = .ok (.idiv, 1) := by decide +kernel
theorem dX10_warmest_57 : decode cX10_warmest 57 = .ok (.iadd, 1) := by decide +kernel
theorem dX10_warmest_58 : decode cX10_warmest 58 = .ok (.iastore, 1) := by decide +kernel
theorem dX10_warmest_59 : decode cX10_warmest 59 = .ok (.aload_n 0, 1) := by decide +kernel
theorem dX10_warmest_60 : decode cX10_warmest 60 = .ok (.getfield 13, 3) := by decide +kernel
theorem dX10_warmest_63 : decode cX10_warmest 63 = .ok (.iconst 1, 1) := by decide +kernel
theorem dX10_warmest_64 : decode cX10_warmest 64 = .ok (.iconst 1, 1) := by decide +kernel
theorem dX10_warmest_65 : decode cX10_warmest 65 = .ok (.iload 5, 2) := by decide +kernel
theorem dX10_warmest_67 : decode cX10_warmest 67 = .ok (.iconst 3, 1) := by decide +kernel
theorem dX10_warmest_68 : decode cX10_warmest 68 = .ok (.idiv, 1) := by decide +kernel
theorem dX10_warmest_69 : decode cX10_warmest 69 = .ok (.iconst 3, 1) := by decide +kernel
theorem dX10_warmest_70 : decode cX10_warmest 70 = .ok (.irem, 1) := by decide +kernel
theorem dX10_warmest_71 : decode cX10_warmest 71 = .ok (.iadd, 1) := by decide +kernel
theorem dX10_warmest_72 : decode cX10_warmest 72 = .ok (.iastore, 1) := by decide +kernel
theorem dX10_warmest_73 : decode cX10_warmest 73 = .ok (.aload_n 0, 1) := by decide +kernel
theorem dX10_warmest_74 : decode cX10_warmest 74 = .ok (.getfield 13, 3) := by decide +kernel
theorem dX10_warmest_77 : decode cX10_warmest 77 = .ok (.iconst 5, 1) := by decide +kernel
theorem dX10_warmest_78 : decode cX10_warmest 78 = .ok (.iconst 1, 1) := by decide +kernel
theorem dX10_warmest_79 : decode cX10_warmest 79 = .ok (.iload 5, 2) := by decide +kernel
theorem dX10_warmest_81 : decode cX10_warmest 81 = .ok (.iconst 3, 1) := by decide +kernel
theorem dX10_warmest_82 : decode cX10_warmest 82 = .ok (.irem, 1) := by decide +kernel
theorem dX10_warmest_83 : decode cX10_warmest 83 = .ok (.iadd, 1) := by decide +kernel
theorem dX10_warmest_84 : decode cX10_warmest 84 = .ok (.iastore, 1) := by decide +kernel
theorem dX10_warmest_85 : decode cX10_warmest 85 = .ok (.aload_n 0, 1) := by decide +kernel
theorem dX10_warmest_86 : decode cX10_warmest 86 = .ok (.invokevirtual 228, 3) := by decide +kernel
theorem dX10_warmest_89 : decode cX10_warmest 89 = .ok (.aload_n 0, 1) := by decide +kernel
theorem dX10_warmest_90 : decode cX10_warmest 90 = .ok (.invokevirtual 236, 3) := by decide +kernel
theorem dX10_warmest_93 : decode cX10_warmest 93 = .ok (.iload_n 1, 1) := by decide +kernel
theorem dX10_warmest_94 : decode cX10_warmest 94 = .ok (.if_icmp .gt 25, 3) := by decide +kernel
theorem dX10_warmest_97 : decode cX10_warmest 97 = .ok (.iload_n 3, 1) := by decide +kernel
theorem dX10_warmest_98 : decode cX10_warmest 98 = .ok (.ifCond .lt 12, 3) := by decide +kernel
theorem dX10_warmest_101 : decode cX10_warmest 101 = .ok (.aload_n 0, 1) := by decide +kernel
theorem dX10_warmest_102 : decode cX10_warmest 102 = .ok (.getfield 186, 3) := by decide +kernel
theorem dX10_warmest_105 : decode cX10_warmest 105 = .ok (.iload 4, 2) := by decide +kernel
theorem dX10_warmest_107 : decode cX10_warmest 107 = .ok (.if_icmp .ge 12, 3) := by decide +kernel
theorem dX10_warmest_110 : decode cX10_warmest 110 = .ok (.iload 5, 2) := by decide +kernel
theorem dX10_warmest_112 : decode cX10_warmest 112 = .ok (.istore_n 3, 1) := by decide +kernel
theorem dX10_warmest_113 : decode cX10_warmest 113 = .ok (.aload_n 0, 1) := by decide +kernel
theorem dX10_warmest_114 : decode cX10_warmest 114 = .ok (.getfield 186, 3) := by decide +kernel
theorem dX10_warmest_117 : decode cX10_warmest 117 = .ok (.istore 4, 2) := by decide +kernel
theorem dX10_warmest_119 : decode cX10_warmest 119 = .ok (.iinc 5 1, 3) := by decide +kernel
theorem dX10_warmest_122 : decode cX10_warmest 122 = .ok (.goto (-83), 3) := by decide +kernel
theorem dX10_warmest_125 : decode cX10_warmest 125 = .ok (.iload_n 3, 1) := by decide +kernel
theorem dX10_warmest_126 : decode cX10_warmest 126 = .ok (.ifCond .ge 6, 3) := by decide +kernel
theorem dX10_warmest_129 : decode cX10_warmest 129 = .ok (.bipush (-4), 2) := by decide +kernel
theorem dX10_warmest_131 : decode cX10_warmest 131 = .ok (.ireturn, 1) := by decide +kernel
theorem dX10_warmest_132 : decode cX10_warmest 132 = .ok (.iload_n 2, 1) := by decide +kernel
theorem dX10_warmest_133 : decode cX10_warmest 133 = .ok (.ifCond .ne 12, 3) := by decide +kernel
theorem dX10_warmest_136 : decode cX10_warmest 136 = .ok (.iconst 3, 1) := by decide +kernel
theorem dX10_warmest_137 : decode cX10_warmest 137 = .ok (.iload_n 3, 1) := by decide +kernel
theorem dX10_warmest_138 : decode cX10_warmest 138 = .ok (.bipush 9, 2) := by decide +kernel
theorem dX10_warmest_140 : decode cX10_warmest 140 = .ok (.idiv, 1) := by decide +kernel
theorem dX10_warmest_141 : decode cX10_warmest 141 = .ok (.iadd, 1) := by decide +kernel
theorem dX10_warmest_142 : decode cX10_warmest 142 = .ok (.goto 33, 3) := by decide +kernel
theorem dX10_warmest_145 : decode cX10_warmest 145 = .ok (.iload_n 2, 1) := by decide +kernel
theorem dX10_warmest_146 : decode cX10_warmest 146 = .ok (.iconst 1, 1) := by decide +kernel
theorem dX10_warmest_147 : decode cX10_warmest 147 = .ok (.if_icmp .ne 13, 3) := by decide +kernel
theorem dX10_warmest_150 : decode cX10_warmest 150 = .ok (.iconst 1, 1) := by decide +kernel
theorem dX10_warmest_151 : decode cX10_warmest 151 = .ok (.iload_n 3, 1) := by decide +kernel
theorem dX10_warmest_152 : decode cX10_warmest 152 = .ok (.iconst 3, 1) := by decide +kernel
theorem dX10_warmest_153 : decode cX10_warmest 153 = .ok (.idiv, 1) := by decide +kernel
theorem dX10_warmest_154 : decode cX10_warmest 154 = .ok (.iconst 3, 1) := by decide +kernel
theorem dX10_warmest_155 : decode cX10_warmest 155 = .ok (.irem, 1) := by decide +kernel
theorem dX10_warmest_156 : decode cX10_warmest 156 = .ok (.iadd, 1) := by decide +kernel
theorem dX10_warmest_157 : decode cX10_warmest 157 = .ok (.goto 18, 3) := by decide +kernel
theorem dX10_warmest_160 : decode cX10_warmest 160 = .ok (.iload_n 2, 1) := by decide +kernel
theorem dX10_warmest_161 : decode cX10_warmest 161 = .ok (.iconst 2, 1) := by decide +kernel
theorem dX10_warmest_162 : decode cX10_warmest 162 = .ok (.if_icmp .ne 11, 3) := by decide +kernel
theorem dX10_warmest_165 : decode cX10_warmest 165 = .ok (.iconst 1, 1) := by decide +kernel
theorem dX10_warmest_166 : decode cX10_warmest 166 = .ok (.iload_n 3, 1) := by decide +kernel
theorem dX10_warmest_167 : decode cX10_warmest 167 = .ok (.iconst 3, 1) := by decide +kernel
theorem dX10_warmest_168 : decode cX10_warmest 168 = .ok (.irem, 1) := by decide +kernel
theorem dX10_warmest_169 : decode cX10_warmest 169 = .ok (.iadd, 1) := by decide +kernel
theorem dX10_warmest_170 : decode cX10_warmest 170 = .ok (.goto 5, 3) := by decide +kernel
theorem dX10_warmest_173 : decode cX10_warmest 173 = .ok (.iload 4, 2) := by decide +kernel
theorem dX10_warmest_175 : decode cX10_warmest 175 = .ok (.ireturn, 1) := by decide +kernel
theorem dX10_nextRow_0 : decode cX10_nextRow 0 = .ok (.iload_n 1, 1) := by decide +kernel
theorem dX10_nextRow_1 : decode cX10_nextRow 1 = .ok (.iconst 2, 1) := by decide +kernel
theorem dX10_nextRow_2 : decode cX10_nextRow 2 = .ok (.isub, 1) := by decide +kernel
theorem dX10_nextRow_3 : decode cX10_nextRow 3 = .ok (.istore_n 2, 1) := by decide +kernel
theorem dX10_nextRow_4 : decode cX10_nextRow 4 = .ok (.iload_n 2, 1) := by decide +kernel
theorem dX10_nextRow_5 : decode cX10_nextRow 5 = .ok (.ifCond .lt 26, 3) := by decide +kernel
theorem dX10_nextRow_8 : decode cX10_nextRow 8 = .ok (.aload_n 0, 1) := by decide +kernel
theorem dX10_nextRow_9 : decode cX10_nextRow 9 = .ok (.getfield 55, 3) := by decide +kernel
theorem dX10_nextRow_12 : decode cX10_nextRow 12 = .ok (.iload_n 2, 1) := by decide +kernel
theorem dX10_nextRow_13 : decode cX10_nextRow 13 = .ok (.iaload, 1) := by decide +kernel
theorem dX10_nextRow_14 : decode cX10_nextRow 14 = .ok (.aload_n 0, 1) := by decide +kernel
theorem dX10_nextRow_15 : decode cX10_nextRow 15 = .ok (.getfield 55, 3) := by decide +kernel
theorem dX10_nextRow_18 : decode cX10_nextRow 18 = .ok (.iload_n 2, 1) := by decide +kernel
theorem dX10_nextRow_19 : decode cX10_nextRow 19 = .ok (.iconst 1, 1) := by decide +kernel
theorem dX10_nextRow_20 : decode cX10_nextRow 20 = .ok (.iadd, 1) := by decide +kernel
theorem dX10_nextRow_21 : decode cX10_nextRow 21 = .ok (.iaload, 1) := by decide +kernel
theorem dX10_nextRow_22 : decode cX10_nextRow 22 = .ok (.if_icmp .le 9, 3) := by decide +kernel
theorem dX10_nextRow_25 : decode cX10_nextRow 25 = .ok (.iinc 2 (-1), 3) := by decide +kernel
theorem dX10_nextRow_28 : decode cX10_nextRow 28 = .ok (.goto (-24), 3) := by decide +kernel
theorem dX10_nextRow_31 : decode cX10_nextRow 31 = .ok (.iload_n 2, 1) := by decide +kernel
theorem dX10_nextRow_32 : decode cX10_nextRow 32 = .ok (.ifCond .ge 5, 3) := by decide +kernel
theorem dX10_nextRow_35 : decode cX10_nextRow 35 = .ok (.iconst 0, 1) := by decide +kernel
theorem dX10_nextRow_36 : decode cX10_nextRow 36 = .ok (.ireturn, 1) := by decide +kernel
theorem dX10_nextRow_37 : decode cX10_nextRow 37 = .ok (.iload_n 1, 1) := by decide +kernel
theorem dX10_nextRow_38 : decode cX10_nextRow 38 = .ok (.iconst 1, 1) := by decide +kernel
theorem dX10_nextRow_39 : decode cX10_nextRow 39 = .ok (.isub, 1) := by decide +kernel
theorem dX10_nextRow_40 : decode cX10_nextRow 40 = .ok (.istore_n 3, 1) := by decide +kernel
theorem dX10_nextRow_41 : decode cX10_nextRow 41 = .ok (.aload_n 0, 1) := by decide +kernel
theorem dX10_nextRow_42 : decode cX10_nextRow 42 = .ok (.getfield 55, 3) := by decide +kernel
theorem dX10_nextRow_45 : decode cX10_nextRow 45 = .ok (.iload_n 3, 1) := by decide +kernel
theorem dX10_nextRow_46 : decode cX10_nextRow 46 = .ok (.iaload, 1) := by decide +kernel
theorem dX10_nextRow_47 : decode cX10_nextRow 47 = .ok (.aload_n 0, 1) := by decide +kernel
theorem dX10_nextRow_48 : decode cX10_nextRow 48 = .ok (.getfield 55, 3) := by decide +kernel
theorem dX10_nextRow_51 : decode cX10_nextRow 51 = .ok (.iload_n 2, 1) := by decide +kernel
theorem dX10_nextRow_52 : decode cX10_nextRow 52 = .ok (.iaload, 1) := by decide +kernel
theorem dX10_nextRow_53 : decode cX10_nextRow 53 = .ok (.if_icmp .ge 9, 3) := by decide +kernel
theorem dX10_nextRow_56 : decode cX10_nextRow 56 = .ok (.iinc 3 (-1), 3) := by decide +kernel
theorem dX10_nextRow_59 : decode cX10_nextRow 59 = .ok (.goto (-18), 3) := by decide +kernel
theorem dX10_nextRow_62 : decode cX10_nextRow 62 = .ok (.aload_n 0, 1) := by decide +kernel
theorem dX10_nextRow_63 : decode cX10_nextRow 63 = .ok (.iload_n 2, 1) := by decide +kernel
theorem dX10_nextRow_64 : decode cX10_nextRow 64 = .ok (.iload_n 3, 1) := by decide +kernel
theorem dX10_nextRow_65 : decode cX10_nextRow 65 = .ok (.invokevirtual 242, 3) := by decide +kernel
theorem dX10_nextRow_68 : decode cX10_nextRow 68 = .ok (.iload_n 2, 1) := by decide +kernel
theorem dX10_nextRow_69 : decode cX10_nextRow 69 = .ok (.iconst 1, 1) := by decide +kernel
theorem dX10_nextRow_70 : decode cX10_nextRow 70 = .ok (.iadd, 1) := by decide +kernel
theorem dX10_nextRow_71 : decode cX10_nextRow 71 = .ok (.istore 4, 2) := by decide +kernel
theorem dX10_nextRow_73 : decode cX10_nextRow 73 = .ok (.iload_n 1, 1) := by decide +kernel
theorem dX10_nextRow_74 : decode cX10_nextRow 74 = .ok (.iconst 1, 1) := by decide +kernel
theorem dX10_nextRow_75 : decode cX10_nextRow 75 = .ok (.isub, 1) := by decide +kernel
theorem dX10_nextRow_76 : decode cX10_nextRow 76 = .ok (.istore 5, 2) := by decide +kernel
theorem dX10_nextRow_78 : decode cX10_nextRow 78 = .ok (.iload 4, 2) := by decide +kernel
theorem dX10_nextRow_80 : decode cX10_nextRow 80 = .ok (.iload 5, 2) := by decide +kernel
theorem dX10_nextRow_82 : decode cX10_nextRow 82 = .ok (.if_icmp .ge 20, 3) := by decide +kernel
theorem dX10_nextRow_85 : decode cX10_nextRow 85 = .ok (.aload_n 0, 1) := by decide +kernel
theorem dX10_nextRow_86 : decode cX10_nextRow 86 = .ok (.iload 4, 2) := by decide +kernel
theorem dX10_nextRow_88 : decode cX10_nextRow 88 = .ok (.iload 5, 2) := by decide +kernel
theorem dX10_nextRow_90 : decode cX10_nextRow 90 = .ok (.invokevirtual 242, 3) := by decide +kernel
theorem dX10_nextRow_93 : decode cX10_nextRow 93 = .ok (.iinc 4 1, 3) := by decide +kernel
theorem dX10_nextRow_96 : decode cX10_nextRow 96 = .ok (.iinc 5 (-1), 3) := by decide +kernel
theorem dX10_nextRow_99 : decode cX10_nextRow 99 = .ok (.goto (-21), 3) := by decide +kernel
theorem dX10_nextRow_102 : decode cX10_nextRow 102 = .ok (.iconst 1, 1) := by decide +kernel
theorem dX10_nextRow_103 : decode cX10_nextRow 103 = .ok (.ireturn, 1) := by decide +kernel
theorem dX10_swap_0 : decode cX10_swap 0 = .ok (.aload_n 0, 1) := by decide +kernel
theorem dX10_swap_1 : decode cX10_swap 1 = .ok (.getfield 55, 3) := by decide +kernel
theorem dX10_swap_4 : decode cX10_swap 4 = .ok (.iload_n 1, 1) := by decide +kernel
theorem dX10_swap_5 : decode cX10_swap 5 = .ok (.iaload, 1) := by decide +kernel
theorem dX10_swap_6 : decode cX10_swap 6 = .ok (.istore_n 3, 1) := by decide +kernel
theorem dX10_swap_7 : decode cX10_swap 7 = .ok (.aload_n 0, 1) := by decide +kernel
theorem dX10_swap_8 : decode cX10_swap 8 = .ok (.getfield 55, 3) := by decide +kernel
theorem dX10_swap_11 : decode cX10_swap 11 = .ok (.iload_n 1, 1) := by decide +kernel
theorem dX10_swap_12 : decode cX10_swap 12 = .ok (.aload_n 0, 1) := by decide +kernel
theorem dX10_swap_13 : decode cX10_swap 13 = .ok (.getfield 55, 3) := by decide +kernel
theorem dX10_swap_16 : decode cX10_swap 16 = .ok (.iload_n 2, 1) := by decide +kernel
theorem dX10_swap_17 : decode cX10_swap 17 = .ok (.iaload, 1) := by decide +kernel
theorem dX10_swap_18 : decode cX10_swap 18 = .ok (.iastore, 1) := by decide +kernel
theorem dX10_swap_19 : decode cX10_swap 19 = .ok (.aload_n 0, 1) := by decide +kernel
theorem dX10_swap_20 : decode cX10_swap 20 = .ok (.getfield 55, 3) := by decide +kernel
theorem dX10_swap_23 : decode cX10_swap 23 = .ok (.iload_n 2, 1) := by decide +kernel
theorem dX10_swap_24 : decode cX10_swap 24 = .ok (.iload_n 3, 1) := by decide +kernel
theorem dX10_swap_25 : decode cX10_swap 25 = .ok (.iastore, 1) := by decide +kernel
theorem dX10_swap_26 : decode cX10_swap 26 = .ok (.return_, 1) := by decide +kernel
theorem dX10_orders_0 : decode cX10_orders 0 = .ok (.iload_n 1, 1) := by decide +kernel
theorem dX10_orders_1 : decode cX10_orders 1 = .ok (.invokestatic 233, 3) := by decide +kernel
theorem dX10_orders_4 : decode cX10_orders 4 = .ok (.istore_n 3, 1) := by decide +kernel
theorem dX10_orders_5 : decode cX10_orders 5 = .ok (.iload_n 1, 1) := by decide +kernel
theorem dX10_orders_6 : decode cX10_orders 6 = .ok (.i2l, 1) := by decide +kernel
theorem dX10_orders_7 : decode cX10_orders 7 = .ok (.lconst 1, 1) := by decide +kernel
theorem dX10_orders_8 : decode cX10_orders 8 = .ok (.iconst 1, 1) := by decide +kernel
theorem dX10_orders_9 : decode cX10_orders 9 = .ok (.aload_n 0, 1) := by decide +kernel
theorem dX10_orders_10 : decode cX10_orders 10 = .ok (.getfield 7, 3) := by decide +kernel
theorem dX10_orders_13 : decode cX10_orders 13 = .ok (.bipush 9, 2) := by decide +kernel
theorem dX10_orders_15 : decode cX10_orders 15 = .ok (.iaload, 1) := by decide +kernel
theorem dX10_orders_16 : decode cX10_orders 16 = .ok (.ishl, 1) := by decide +kernel
theorem dX10_orders_17 : decode cX10_orders 17 = .ok (.iconst 1, 1) := by decide +kernel
theorem dX10_orders_18 : decode cX10_orders 18 = .ok (.isub, 1) := by decide +kernel
theorem dX10_orders_19 : decode cX10_orders 19 = .ok (.i2l, 1) := by decide +kernel
theorem dX10_orders_20 : decode cX10_orders 20 = .ok (.invokestatic 75, 3) := by decide +kernel
theorem dX10_orders_23 : decode cX10_orders 23 = .ok (.ifCond .eq 24, 3) := by decide +kernel
theorem dX10_orders_26 : decode cX10_orders 26 = .ok (.iload_n 3, 1) := by decide +kernel
theorem dX10_orders_27 : decode cX10_orders 27 = .ok (.bipush 6, 2) := by decide +kernel
theorem dX10_orders_29 : decode cX10_orders 29 = .ok (.if_icmp .gt 18, 3) := by decide +kernel
theorem dX10_orders_32 : decode cX10_orders 32 = .ok (.iload_n 2, 1) := by decide +kernel
theorem dX10_orders_33 : decode cX10_orders 33 = .ok (.i2l, 1) := by decide +kernel
theorem dX10_orders_34 : decode cX10_orders 34 = .ok (.ldc2_w 245, 3) := by decide +kernel
theorem dX10_orders_37 : decode cX10_orders 37 = .ok (.iload_n 3, 1) := by decide +kernel
theorem dX10_orders_38 : decode cX10_orders 38 = .ok (.iconst 1, 1) := by decide +kernel
theorem dX10_orders_39 : decode cX10_orders 39 = .ok (.isub, 1) := by decide +kernel
theorem dX10_orders_40 : decode cX10_orders 40 = .ok (.i2l, 1) := by decide +kernel
theorem dX10_orders_41 : decode cX10_orders 41 = .ok (.invokestatic 75, 3) := by decide +kernel
theorem dX10_orders_44 : decode cX10_orders 44 = .ok (.ifCond .ne 5, 3) := by decide +kernel
theorem dX10_orders_47 : decode cX10_orders 47 = .ok (.iconst (-1), 1) := by decide +kernel
theorem dX10_orders_48 : decode cX10_orders 48 = .ok (.ireturn, 1) := by decide +kernel
theorem dX10_orders_49 : decode cX10_orders 49 = .ok (.aload_n 0, 1) := by decide +kernel
theorem dX10_orders_50 : decode cX10_orders 50 = .ok (.invokevirtual 104, 3) := by decide +kernel
theorem dX10_orders_53 : decode cX10_orders 53 = .ok (.iconst 0, 1) := by decide +kernel
theorem dX10_orders_54 : decode cX10_orders 54 = .ok (.istore 4, 2) := by decide +kernel
theorem dX10_orders_56 : decode cX10_orders 56 = .ok (.iconst 0, 1) := by decide +kernel
theorem dX10_orders_57 : decode cX10_orders 57 = .ok (.istore 5, 2) := by decide +kernel
theorem dX10_orders_59 : decode cX10_orders 59 = .ok (.iload 5, 2) := by decide +kernel
theorem dX10_orders_61 : decode cX10_orders 61 = .ok (.aload_n 0, 1) := by decide +kernel
theorem dX10_orders_62 : decode cX10_orders 62 = .ok (.getfield 7, 3) := by decide +kernel
theorem dX10_orders_65 : decode cX10_orders 65 = .ok (.bipush 9, 2) := by decide +kernel
theorem dX10_orders_67 : decode cX10_orders 67 = .ok (.iaload, 1) := by decide +kernel
theorem dX10_orders_68 : decode cX10_orders 68 = .ok (.if_icmp .ge 30, 3) := by decide +kernel
theorem dX10_orders_71 : decode cX10_orders 71 = .ok (.iload_n 1, 1) := by decide +kernel
theorem dX10_orders_72 : decode cX10_orders 72 = .ok (.iload 5, 2) := by decide +kernel
theorem dX10_orders_74 : decode cX10_orders 74 = .ok (.invokestatic 166, 3) := by decide +kernel
theorem dX10_orders_77 : decode cX10_orders 77 = .ok (.ifCond .eq 15, 3) := by decide +kernel
theorem dX10_orders_80 : decode cX10_orders 80 = .ok (.aload_n 0, 1) := by decide +kernel
theorem dX10_orders_81 : decode cX10_orders 81 = .ok (.getfield 49, 3) := by decide +kernel
theorem dX10_orders_84 : decode cX10_orders 84 = .ok (.iload 4, 2) := by decide +kernel
theorem dX10_orders_86 : decode cX10_orders 86 = .ok (.iload 5, 2) := by decide +kernel
theorem dX10_orders_88 : decode cX10_orders 88 = .ok (.iastore, 1) := by decide +kernel
theorem dX10_orders_89 : decode cX10_orders 89 = .ok (.iinc 4 1, 3) := by decide +kernel
theorem dX10_orders_92 : decode cX10_orders 92 = .ok (.iinc 5 1, 3) := by decide +kernel
theorem dX10_orders_95 : decode cX10_orders 95 = .ok (.goto (-36), 3) := by decide +kernel
theorem dX10_orders_98 : decode cX10_orders 98 = .ok (.iconst 0, 1) := by decide +kernel
theorem dX10_orders_99 : decode cX10_orders 99 = .ok (.istore 5, 2) := by decide +kernel
theorem dX10_orders_101 : decode cX10_orders 101 = .ok (.iload 5, 2) := by decide +kernel
theorem dX10_orders_103 : decode cX10_orders 103 = .ok (.iload_n 3, 1) := by decide +kernel
theorem dX10_orders_104 : decode cX10_orders 104 = .ok (.if_icmp .ge 97, 3) := by decide +kernel
theorem dX10_orders_107 : decode cX10_orders 107 = .ok (.iload 5, 2) := by decide +kernel
theorem dX10_orders_109 : decode cX10_orders 109 = .ok (.istore 6, 2) := by decide +kernel
theorem dX10_orders_111 : decode cX10_orders 111 = .ok (.iload 6, 2) := by decide +kernel
theorem dX10_orders_113 : decode cX10_orders 113 = .ok (.ifCond .le 49, 3) := by decide +kernel
theorem dX10_orders_116 : decode cX10_orders 116 = .ok (.aload_n 0, 1) := by decide +kernel
theorem dX10_orders_117 : decode cX10_orders 117 = .ok (.getfield 52, 3) := by decide +kernel
theorem dX10_orders_120 : decode cX10_orders 120 = .ok (.iload 6, 2) := by decide +kernel
theorem dX10_orders_122 : decode cX10_orders 122 = .ok (.iconst 1, 1) := by decide +kernel
theorem dX10_orders_123 : decode cX10_orders 123 = .ok (.isub, 1) := by decide +kernel
theorem dX10_orders_124 : decode cX10_orders 124 = .ok (.iaload, 1) := by decide +kernel
theorem dX10_orders_125 : decode cX10_orders 125 = .ok (.aload_n 0, 1) := by decide +kernel
theorem dX10_orders_126 : decode cX10_orders 126 = .ok (.aload_n 0, 1) := by decide +kernel
theorem dX10_orders_127 : decode cX10_orders 127 = .ok (.getfield 49, 3) := by decide +kernel
theorem dX10_orders_130 : decode cX10_orders 130 = .ok (.iload 5, 2) := by decide +kernel
theorem dX10_orders_132 : decode cX10_orders 132 = .ok (.iaload, 1) := by decide +kernel
theorem dX10_orders_133 : decode cX10_orders 133 = .ok (.iconst 0, 1) := by decide +kernel
theorem dX10_orders_134 : decode cX10_orders 134 = .ok (.invokevirtual 94, 3) := by decide +kernel
theorem dX10_orders_137 : decode cX10_orders 137 = .ok (.if_icmp .le 25, 3) := by decide +kernel
theorem dX10_orders_140 : decode cX10_orders 140 = .ok (.aload_n 0, 1) := by decide +kernel
theorem dX10_orders_141 : decode cX10_orders 141 = .ok (.getfield 52, 3) := by decide +kernel
theorem dX10_orders_144 : decode cX10_orders 144 = .ok (.iload 6, 2) := by decide +kernel
theorem dX10_orders_146 : decode cX10_orders 146 = .ok (.aload_n 0, 1) := by decide +kernel
theorem dX10_orders_147 : decode cX10_orders 147 = .ok (.getfield 52, 3) := by decide +kernel
theorem dX10_orders_150 : decode cX10_orders 150 = .ok (.iload 6, 2) := by decide +kernel
theorem dX10_orders_152 : decode cX10_orders 152 = .ok (.iconst 1, 1) := by decide +kernel
theorem dX10_orders_153 : decode cX10_orders 153 = .ok (.isub, 1) := by decide +kernel
theorem dX10_orders_154 : decode cX10_orders 154 = .ok (.iaload, 1) := by decide +kernel
theorem dX10_orders_155 : decode cX10_orders 155 = .ok (.iastore, 1) := by decide +kernel
theorem dX10_orders_156 : decode cX10_orders 156 = .ok (.iinc 6 (-1), 3) := by decide +kernel
theorem dX10_orders_159 : decode cX10_orders 159 = .ok (.goto (-48), 3) := by decide +kernel
theorem dX10_orders_162 : decode cX10_orders 162 = .ok (.aload_n 0, 1) := by decide +kernel
theorem dX10_orders_163 : decode cX10_orders 163 = .ok (.getfield 52, 3) := by decide +kernel
theorem dX10_orders_166 : decode cX10_orders 166 = .ok (.iload 6, 2) := by decide +kernel
theorem dX10_orders_168 : decode cX10_orders 168 = .ok (.aload_n 0, 1) := by decide +kernel
theorem dX10_orders_169 : decode cX10_orders 169 = .ok (.aload_n 0, 1) := by decide +kernel
theorem dX10_orders_170 : decode cX10_orders 170 = .ok (.getfield 49, 3) := by decide +kernel
theorem dX10_orders_173 : decode cX10_orders 173 = .ok (.iload 5, 2) := by decide +kernel
theorem dX10_orders_175 : decode cX10_orders 175 = .ok (.iaload, 1) := by decide +kernel
theorem dX10_orders_176 : decode cX10_orders 176 = .ok (.iconst 0, 1) := by decide +kernel
theorem dX10_orders_177 : decode cX10_orders 177 = .ok (.invokevirtual 94, 3) := by decide +kernel
theorem dX10_orders_180 : decode cX10_orders 180 = .ok (.iastore, 1) := by decide +kernel
theorem dX10_orders_181 : decode cX10_orders 181 = .ok (.aload_n 0, 1) := by decide +kernel
theorem dX10_orders_182 : decode cX10_orders 182 = .ok (.getfield 55, 3) := by decide +kernel
theorem dX10_orders_185 : decode cX10_orders 185 = .ok (.iload 5, 2) := by decide +kernel
theorem dX10_orders_187 : decode cX10_orders 187 = .ok (.aload_n 0, 1) := by decide +kernel
theorem dX10_orders_188 : decode cX10_orders 188 = .ok (.getfield 49, 3) := by decide +kernel
theorem dX10_orders_191 : decode cX10_orders 191 = .ok (.iload 5, 2) := by decide +kernel
theorem dX10_orders_193 : decode cX10_orders 193 = .ok (.iaload, 1) := by decide +kernel
theorem dX10_orders_194 : decode cX10_orders 194 = .ok (.iastore, 1) := by decide +kernel
theorem dX10_orders_195 : decode cX10_orders 195 = .ok (.iinc 5 1, 3) := by decide +kernel
theorem dX10_orders_198 : decode cX10_orders 198 = .ok (.goto (-97), 3) := by decide +kernel
theorem dX10_orders_201 : decode cX10_orders 201 = .ok (.iconst 0, 1) := by decide +kernel
theorem dX10_orders_202 : decode cX10_orders 202 = .ok (.istore 5, 2) := by decide +kernel
theorem dX10_orders_204 : decode cX10_orders 204 = .ok (.iconst 0, 1) := by decide +kernel
theorem dX10_orders_205 : decode cX10_orders 205 = .ok (.istore 6, 2) := by decide +kernel
theorem dX10_orders_207 : decode cX10_orders 207 = .ok (.iconst 0, 1) := by decide +kernel
theorem dX10_orders_208 : decode cX10_orders 208 = .ok (.istore 7, 2) := by decide +kernel
theorem dX10_orders_210 : decode cX10_orders 210 = .ok (.iconst 1, 1) := by decide +kernel
theorem dX10_orders_211 : decode cX10_orders 211 = .ok (.istore 8, 2) := by decide +kernel
theorem dX10_orders_213 : decode cX10_orders 213 = .ok (.iload 8, 2) := by decide +kernel
theorem dX10_orders_215 : decode cX10_orders 215 = .ok (.ifCond .eq 129, 3) := by decide +kernel
theorem dX10_orders_218 : decode cX10_orders 218 = .ok (.iconst 0, 1) := by decide +kernel
theorem dX10_orders_219 : decode cX10_orders 219 = .ok (.istore 9, 2) := by decide +kernel
theorem dX10_orders_221 : decode cX10_orders 221 = .ok (.iload 9, 2) := by decide +kernel
theorem dX10_orders_223 : decode cX10_orders 223 = .ok (.iload_n 3, 1) := by decide +kernel
theorem dX10_orders_224 : decode cX10_orders 224 = .ok (.if_icmp .ge 28, 3) := by decide +kernel
theorem dX10_orders_227 : decode cX10_orders 227 = .ok (.aload_n 0, 1) := by decide +kernel
theorem dX10_orders_228 : decode cX10_orders 228 = .ok (.getfield 16, 3) := by decide +kernel
theorem dX10_orders_231 : decode cX10_orders 231 = .ok (.aload_n 0, 1) := by decide +kernel
theorem dX10_orders_232 : decode cX10_orders 232 = .ok (.getfield 55, 3) := by decide +kernel
theorem dX10_orders_235 : decode cX10_orders 235 = .ok (.iload 9, 2) := by decide +kernel
theorem dX10_orders_237 : decode cX10_orders 237 = .ok (.iaload, 1) := by decide +kernel
theorem dX10_orders_238 : decode cX10_orders 238 = .ok (.aload_n 0, 1) := by decide +kernel
theorem dX10_orders_239 : decode cX10_orders 239 = .ok (.getfield 52, 3) := by decide +kernel
theorem dX10_orders_242 : decode cX10_orders 242 = .ok (.iload 9, 2) := by decide +kernel
theorem dX10_orders_244 : decode cX10_orders 244 = .ok (.iaload, 1) := by decide +kernel
theorem dX10_orders_245 : decode cX10_orders 245 = .ok (.iastore, 1) := by decide +kernel
theorem dX10_orders_246 : decode cX10_orders 246 = .ok (.iinc 9 1, 3) := by decide +kernel
theorem dX10_orders_249 : decode cX10_orders 249 = .ok (.goto (-28), 3) := by decide +kernel
theorem dX10_orders_252 : decode cX10_orders 252 = .ok (.aload_n 0, 1) := by decide +kernel
theorem dX10_orders_253 : decode cX10_orders 253 = .ok (.invokevirtual 228, 3) := by decide +kernel
theorem dX10_orders_256 : decode cX10_orders 256 = .ok (.aload_n 0, 1) := by decide +kernel
theorem dX10_orders_257 : decode cX10_orders 257 = .ok (.invokevirtual 236, 3) := by decide +kernel
theorem dX10_orders_260 : decode cX10_orders 260 = .ok (.istore 9, 2) := by decide +kernel
theorem dX10_orders_262 : decode cX10_orders 262 = .ok (.aload_n 0, 1) := by decide +kernel
theorem dX10_orders_263 : decode cX10_orders 263 = .ok (.invokevirtual 239, 3) := by decide +kernel
theorem dX10_orders_266 : decode cX10_orders 266 = .ok (.istore 10, 2) := by decide +kernel
theorem dX10_orders_268 : decode cX10_orders 268 = .ok (.iload 7, 2) := by decide +kernel
theorem dX10_orders_270 : decode cX10_orders 270 = .ok (.ifCond .eq 24, 3) := by decide +kernel
theorem dX10_orders_273 : decode cX10_orders 273 = .ok (.iload 9, 2) := by decide +kernel
theorem dX10_orders_275 : decode cX10_orders 275 = .ok (.iload 5, 2) := by decide +kernel
theorem dX10_orders_277 : decode cX10_orders 277 = .ok (.if_icmp .lt 17, 3) := by decide +kernel
theorem dX10_orders_280 : decode cX10_orders 280 = .ok (.iload 9, 2) := by decide +kernel
theorem dX10_orders_282 : decode cX10_orders 282 = .ok (.iload 5, 2) := by decide +kernel
theorem dX10_orders_284 : decode cX10_orders 284 = .ok (.if_icmp .ne 50, 3) := by decide +kernel
theorem dX10_orders_287 : decode cX10_orders 287 = .ok (.iload 10, 2) := by decide +kernel
theorem dX10_orders_289 : decode cX10_orders 289 = .ok (.iload 6, 2) := by decide +kernel
theorem dX10_orders_291 : decode cX10_orders 291 = .ok (.if_icmp .ge 43, 3) := by decide +kernel
theorem dX10_orders_294 : decode cX10_orders 294 = .ok (.iconst 1, 1) := by decide +kernel
theorem dX10_orders_295 : decode cX10_orders 295 = .ok (.istore 7, 2) := by decide +kernel
theorem dX10_orders_297 : decode cX10_orders 297 = .ok (.iload 9, 2) := by decide +kernel
theorem dX10_orders_299 : decode cX10_orders 299 = .ok (.istore 5, 2) := by decide +kernel
theorem dX10_orders_301 : decode cX10_orders 301 = .ok (.iload 10, 2) := by decide +kernel
theorem dX10_orders_303 : decode cX10_orders 303 = .ok (.istore 6, 2) := by decide +kernel
theorem dX10_orders_305 : decode cX10_orders 305 = .ok (.iconst 0, 1) := by decide +kernel
theorem dX10_orders_306 : decode cX10_orders 306 = .ok (.istore 11, 2) := by decide +kernel
theorem dX10_orders_308 : decode cX10_orders 308 = .ok (.iload 11, 2) := by decide +kernel
theorem dX10_orders_310 : decode cX10_orders 310 = .ok (.iload_n 3, 1) := by decide +kernel
theorem dX10_orders_311 : decode cX10_orders 311 = .ok (.if_icmp .ge 23, 3) := by decide +kernel
theorem dX10_orders_314 : decode cX10_orders 314 = .ok (.aload_n 0, 1) := by decide +kernel
theorem dX10_orders_315 : decode cX10_orders 315 = .ok (.getfield 58, 3) := by decide +kernel
theorem dX10_orders_318 : decode cX10_orders 318 = .ok (.iload 11, 2) := by decide +kernel
theorem dX10_orders_320 : decode cX10_orders 320 = .ok (.aload_n 0, 1) := by decide +kernel
theorem dX10_orders_321 : decode cX10_orders 321 = .ok (.getfield 55, 3) := by decide +kernel
theorem dX10_orders_324 : decode cX10_orders 324 = .ok (.iload 11, 2) := by decide +kernel
theorem dX10_orders_326 : decode cX10_orders 326 = .ok (.iaload, 1) := by decide +kernel
theorem dX10_orders_327 : decode cX10_orders 327 = .ok (.iastore, 1) := by decide +kernel
theorem dX10_orders_328 : decode cX10_orders 328 = .ok (.iinc 11 1, 3) := by decide +kernel
theorem dX10_orders_331 : decode cX10_orders 331 = .ok (.goto (-23), 3) := by decide +kernel
theorem dX10_orders_334 : decode cX10_orders 334 = .ok (.aload_n 0, 1) := by decide +kernel
theorem dX10_orders_335 : decode cX10_orders 335 = .ok (.iload_n 3, 1) := by decide +kernel
theorem dX10_orders_336 : decode cX10_orders 336 = .ok (.invokevirtual 247, 3) := by decide +kernel
theorem dX10_orders_339 : decode cX10_orders 339 = .ok (.istore 8, 2) := by decide +kernel
theorem dX10_orders_341 : decode cX10_orders 341 = .ok (.goto (-128), 3) := by decide +kernel
theorem dX10_orders_344 : decode cX10_orders 344 = .ok (.iload_n 2, 1) := by decide +kernel
theorem dX10_orders_345 : decode cX10_orders 345 = .ok (.iconst (-1), 1) := by decide +kernel
theorem dX10_orders_346 : decode cX10_orders 346 = .ok (.if_icmp .ne 8, 3) := by decide +kernel
theorem dX10_orders_349 : decode cX10_orders 349 = .ok (.iload 5, 2) := by decide +kernel
theorem dX10_orders_351 : decode cX10_orders 351 = .ok (.goto 20, 3) := by decide +kernel
theorem dX10_orders_354 : decode cX10_orders 354 = .ok (.iload_n 2, 1) := by decide +kernel
theorem dX10_orders_355 : decode cX10_orders 355 = .ok (.bipush (-2), 2) := by decide +kernel
theorem dX10_orders_357 : decode cX10_orders 357 = .ok (.if_icmp .ne 8, 3) := by decide +kernel
theorem dX10_orders_360 : decode cX10_orders 360 = .ok (.iload 6, 2) := by decide +kernel
theorem dX10_orders_362 : decode cX10_orders 362 = .ok (.goto 9, 3) := by decide +kernel
theorem dX10_orders_365 : decode cX10_orders 365 = .ok (.aload_n 0, 1) := by decide +kernel
theorem dX10_orders_366 : decode cX10_orders 366 = .ok (.getfield 58, 3) := by decide +kernel
theorem dX10_orders_369 : decode cX10_orders 369 = .ok (.iload_n 2, 1) := by decide +kernel
theorem dX10_orders_370 : decode cX10_orders 370 = .ok (.iaload, 1) := by decide +kernel
theorem dX10_orders_371 : decode cX10_orders 371 = .ok (.ireturn, 1) := by decide +kernel
theorem dX10_times_0 : decode cX10_times 0 = .ok (.iload_n 1, 1) := by decide +kernel
theorem dX10_times_1 : decode cX10_times 1 = .ok (.iload_n 2, 1) := by decide +kernel
theorem dX10_times_2 : decode cX10_times 2 = .ok (.invokestatic 250, 3) := by decide +kernel
theorem dX10_times_5 : decode cX10_times 5 = .ok (.ifCond .eq 29, 3) := by decide +kernel
theorem dX10_times_8 : decode cX10_times 8 = .ok (.iload 4, 2) := by decide +kernel
theorem dX10_times_10 : decode cX10_times 10 = .ok (.i2l, 1) := by decide +kernel
theorem dX10_times_11 : decode cX10_times 11 = .ok (.lconst 1, 1) := by decide +kernel
theorem dX10_times_12 : decode cX10_times 12 = .ok (.ldc2_w 73, 3) := by decide +kernel
theorem dX10_times_15 : decode cX10_times 15 = .ok (.invokestatic 75, 3) := by decide +kernel
theorem dX10_times_18 : decode cX10_times 18 = .ok (.ifCond .eq 16, 3) := by decide +kernel
theorem dX10_times_21 : decode cX10_times 21 = .ok (.iload 5, 2) := by decide +kernel
theorem dX10_times_23 : decode cX10_times 23 = .ok (.i2l, 1) := by decide +kernel
theorem dX10_times_24 : decode cX10_times 24 = .ok (.lconst 0, 1) := by decide +kernel
theorem dX10_times_25 : decode cX10_times 25 = .ok (.ldc2_w 253, 3) := by decide +kernel
theorem dX10_times_28 : decode cX10_times 28 = .ok (.invokestatic 75, 3) := by decide +kernel
theorem dX10_times_31 : decode cX10_times 31 = .ok (.ifCond .ne 5, 3) := by decide +kernel
theorem dX10_times_34 : decode cX10_times 34 = .ok (.iconst (-1), 1) := by decide +kernel
theorem dX10_times_35 : decode cX10_times 35 = .ok (.ireturn, 1) := by decide +kernel
theorem dX10_times_36 : decode cX10_times 36 = .ok (.aload_n 0, 1) := by decide +kernel
theorem dX10_times_37 : decode cX10_times 37 = .ok (.iload_n 1, 1) := by decide +kernel
theorem dX10_times_38 : decode cX10_times 38 = .ok (.iload_n 2, 1) := by decide +kernel
theorem dX10_times_39 : decode cX10_times 39 = .ok (.iload_n 3, 1) := by decide +kernel
theorem dX10_times_40 : decode cX10_times 40 = .ok (.iconst 2, 1) := by decide +kernel
theorem dX10_times_41 : decode cX10_times 41 = .ok (.iload 4, 2) := by decide +kernel
theorem dX10_times_43 : decode cX10_times 43 = .ok (.imul, 1) := by decide +kernel
theorem dX10_times_44 : decode cX10_times 44 = .ok (.invokevirtual 255, 3) := by decide +kernel
theorem dX10_times_47 : decode cX10_times 47 = .ok (.istore 6, 2) := by decide +kernel
theorem dX10_times_49 : decode cX10_times 49 = .ok (.iload 6, 2) := by decide +kernel
theorem dX10_times_51 : decode cX10_times 51 = .ok (.ifCond .ge 6, 3) := by decide +kernel
theorem dX10_times_54 : decode cX10_times 54 = .ok (.iload 6, 2) := by decide +kernel
theorem dX10_times_56 : decode cX10_times 56 = .ok (.ireturn, 1) := by decide +kernel
theorem dX10_times_57 : decode cX10_times 57 = .ok (.bipush 16, 2) := by decide +kernel
theorem dX10_times_59 : decode cX10_times 59 = .ok (.iload_n 1, 1) := by decide +kernel
theorem dX10_times_60 : decode cX10_times 60 = .ok (.imul, 1) := by decide +kernel
theorem dX10_times_61 : decode cX10_times 61 = .ok (.iload_n 3, 1) := by decide +kernel
theorem dX10_times_62 : decode cX10_times 62 = .ok (.iadd, 1) := by decide +kernel
theorem dX10_times_63 : decode cX10_times 63 = .ok (.istore 7, 2) := by decide +kernel
theorem dX10_times_65 : decode cX10_times 65 = .ok (.iconst 0, 1) := by decide +kernel
theorem dX10_times_66 : decode cX10_times 66 = .ok (.istore 8, 2) := by decide +kernel
theorem dX10_times_68 : decode cX10_times 68 = .ok (.iload 8, 2) := by decide +kernel
theorem dX10_times_70 : decode cX10_times 70 = .ok (.iload 4, 2) := by decide +kernel
theorem dX10_times_72 : decode cX10_times 72 = .ok (.if_icmp .ge 56, 3) := by decide +kernel
theorem dX10_times_75 : decode cX10_times 75 = .ok (.aload_n 0, 1) := by decide +kernel
theorem dX10_times_76 : decode cX10_times 76 = .ok (.aload_n 0, 1) := by decide +kernel
theorem dX10_times_77 : decode cX10_times 77 = .ok (.getfield 70, 3) := by decide +kernel
theorem dX10_times_80 : decode cX10_times 80 = .ok (.iload 7, 2) := by decide +kernel
theorem dX10_times_82 : decode cX10_times 82 = .ok (.iconst 2, 1) := by decide +kernel
theorem dX10_times_83 : decode cX10_times 83 = .ok (.iload 8, 2) := by decide +kernel
theorem dX10_times_85 : decode cX10_times 85 = .ok (.imul, 1) := by decide +kernel
theorem dX10_times_86 : decode cX10_times 86 = .ok (.iadd, 1) := by decide +kernel
theorem dX10_times_87 : decode cX10_times 87 = .ok (.iaload, 1) := by decide +kernel
theorem dX10_times_88 : decode cX10_times 88 = .ok (.invokevirtual 119, 3) := by decide +kernel
theorem dX10_times_91 : decode cX10_times 91 = .ok (.ifCond .eq 28, 3) := by decide +kernel
theorem dX10_times_94 : decode cX10_times 94 = .ok (.aload_n 0, 1) := by decide +kernel
theorem dX10_times_95 : decode cX10_times 95 = .ok (.getfield 70, 3) := by decide +kernel
theorem dX10_times_98 : decode cX10_times 98 = .ok (.iload 7, 2) := by decide +kernel
theorem dX10_times_100 : decode cX10_times 100 = .ok (.iconst 2, 1) := by decide +kernel
theorem dX10_times_101 : decode cX10_times 101 = .ok (.iload 8, 2) := by decide +kernel
theorem dX10_times_103 : decode cX10_times 103 = .ok (.imul, 1) := by decide +kernel
theorem dX10_times_104 : decode cX10_times 104 = .ok (.iadd, 1) := by decide +kernel
theorem dX10_times_105 : decode cX10_times 105 = .ok (.iconst 1, 1) := by decide +kernel
theorem dX10_times_106 : decode cX10_times 106 = .ok (.iadd, 1) := by decide +kernel
theorem dX10_times_107 : decode cX10_times 107 = .ok (.iaload, 1) := by decide +kernel
theorem dX10_times_108 : decode cX10_times 108 = .ok (.i2l, 1) := by decide +kernel
theorem dX10_times_109 : decode cX10_times 109 = .ok (.lconst 0, 1) := by decide +kernel
theorem dX10_times_110 : decode cX10_times 110 = .ok (.ldc2_w 259, 3) := by decide +kernel
theorem dX10_times_113 : decode cX10_times 113 = .ok (.invokestatic 75, 3) := by decide +kernel
theorem dX10_times_116 : decode cX10_times 116 = .ok (.ifCond .ne 6, 3) := by decide +kernel
theorem dX10_times_119 : decode cX10_times 119 = .ok (.bipush (-2), 2) := by decide +kernel
theorem dX10_times_121 : decode cX10_times 121 = .ok (.ireturn, 1) := by decide +kernel
theorem dX10_times_122 : decode cX10_times 122 = .ok (.iinc 8 1, 3) := by decide +kernel
theorem dX10_times_125 : decode cX10_times 125 = .ok (.goto (-57), 3) := by decide +kernel
theorem dX10_times_128 : decode cX10_times 128 = .ok (.aload_n 0, 1) := by decide +kernel
theorem dX10_times_129 : decode cX10_times 129 = .ok (.invokevirtual 104, 3) := by decide +kernel
theorem dX10_times_132 : decode cX10_times 132 = .ok (.iconst 0, 1) := by decide +kernel
theorem dX10_times_133 : decode cX10_times 133 = .ok (.istore 8, 2) := by decide +kernel
theorem dX10_times_135 : decode cX10_times 135 = .ok (.bipush (-4), 2) := by decide +kernel
theorem dX10_times_137 : decode cX10_times 137 = .ok (.istore 9, 2) := by decide +kernel
theorem dX10_times_139 : decode cX10_times 139 = .ok (.iconst 0, 1) := by decide +kernel
theorem dX10_times_140 : decode cX10_times 140 = .ok (.istore 10, 2) := by decide +kernel
theorem dX10_times_142 : decode cX10_times 142 = .ok (.iload 10, 2) := by decide +kernel
theorem dX10_times_144 : decode cX10_times 144 = .ok (.bipush 20, 2) := by decide +kernel
theorem dX10_times_146 : decode cX10_times 146 = .ok (.if_icmp .gt 164, 3) := by decide +kernel
theorem dX10_times_149 : decode cX10_times 149 = .ok (.iconst 1, 1) := by decide +kernel
theorem dX10_times_150 : decode cX10_times 150 = .ok (.istore 11, 2) := by decide +kernel
theorem dX10_times_152 : decode cX10_times 152 = .ok (.iload 11, 2) := by decide +kernel
theorem dX10_times_154 : decode cX10_times 154 = .ok (.bipush 9, 2) := by decide +kernel
theorem dX10_times_156 : decode cX10_times 156 = .ok (.if_icmp .gt 148, 3) := by decide +kernel
theorem dX10_times_159 : decode cX10_times 159 = .ok (.aload_n 0, 1) := by decide +kernel
theorem dX10_times_160 : decode cX10_times 160 = .ok (.getfield 13, 3) := by decide +kernel
theorem dX10_times_163 : decode cX10_times 163 = .ok (.iconst 3, 1) := by decide +kernel
theorem dX10_times_164 : decode cX10_times 164 = .ok (.iload 10, 2) := by decide +kernel
theorem dX10_times_166 : decode cX10_times 166 = .ok (.iastore, 1) := by decide +kernel
theorem dX10_times_167 : decode cX10_times 167 = .ok (.aload_n 0, 1) := by decide +kernel
theorem dX10_times_168 : decode cX10_times 168 = .ok (.getfield 13, 3) := by decide +kernel
theorem dX10_times_171 : decode cX10_times 171 = .ok (.iconst 4, 1) := by decide +kernel
theorem dX10_times_172 : decode cX10_times 172 = .ok (.iload 11, 2) := by decide +kernel
theorem dX10_times_174 : decode cX10_times 174 = .ok (.iastore, 1) := by decide +kernel
theorem dX10_times_175 : decode cX10_times 175 = .ok (.aload_n 0, 1) := by decide +kernel
theorem dX10_times_176 : decode cX10_times 176 = .ok (.invokevirtual 228, 3) := by decide +kernel
theorem dX10_times_179 : decode cX10_times 179 = .ok (.iconst 1, 1) := by decide +kernel
theorem dX10_times_180 : decode cX10_times 180 = .ok (.istore 12, 2) := by decide +kernel
theorem dX10_times_182 : decode cX10_times 182 = .ok (.iconst 0, 1) := by decide +kernel
theorem dX10_times_183 : decode cX10_times 183 = .ok (.istore 13, 2) := by decide +kernel
theorem dX10_times_185 : decode cX10_times 185 = .ok (.iload 13, 2) := by decide +kernel
theorem dX10_times_187 : decode cX10_times 187 = .ok (.iload 4, 2) := by decide +kernel
theorem dX10_times_189 : decode cX10_times 189 = .ok (.if_icmp .ge 69, 3) := by decide +kernel
theorem dX10_times_192 : decode cX10_times 192 = .ok (.aload_n 0, 1) := by decide +kernel
theorem dX10_times_193 : decode cX10_times 193 = .ok (.getfield 34, 3) := by decide +kernel
theorem dX10_times_196 : decode cX10_times 196 = .ok (.aload_n 0, 1) := by decide +kernel
theorem dX10_times_197 : decode cX10_times 197 = .ok (.getfield 70, 3) := by decide +kernel
theorem dX10_times_200 : decode cX10_times 200 = .ok (.iload 7, 2) := by decide +kernel
theorem dX10_times_202 : decode cX10_times 202 = .ok (.iconst 2, 1) := by decide +kernel
theorem dX10_times_203 : decode cX10_times 203 = .ok (.iload 13, 2) := by decide +kernel
theorem dX10_times_205 : decode cX10_times 205 = .ok (.imul, 1) := by decide +kernel
theorem dX10_times_206 : decode cX10_times 206 = .ok (.iadd, 1) := by decide +kernel
theorem dX10_times_207 : decode cX10_times 207 = .ok (.iaload, 1) := by decide +kernel
theorem dX10_times_208 : decode cX10_times 208 = .ok (.iaload, 1) := by decide +kernel
theorem dX10_times_209 : decode cX10_times 209 = .ok (.istore 14, 2) := by decide +kernel
theorem dX10_times_211 : decode cX10_times 211 = .ok (.iload 12, 2) := by decide +kernel
theorem dX10_times_213 : decode cX10_times 213 = .ok (.ifCond .eq 36, 3) := by decide +kernel
theorem dX10_times_216 : decode cX10_times 216 = .ok (.iload 14, 2) := by decide +kernel
theorem dX10_times_218 : decode cX10_times 218 = .ok (.ifCond .ge 8, 3) := by decide +kernel
theorem dX10_times_221 : decode cX10_times 221 = .ok (.bipush 120, 2) := by decide +kernel
theorem dX10_times_223 : decode cX10_times 223 = .ok (.goto 5, 3) := by decide +kernel
theorem dX10_times_226 : decode cX10_times 226 = .ok (.iload 14, 2) := by decide +kernel
theorem dX10_times_228 : decode cX10_times 228 = .ok (.aload_n 0, 1) := by decide +kernel
theorem dX10_times_229 : decode cX10_times 229 = .ok (.getfield 70, 3) := by decide +kernel
theorem dX10_times_232 : decode cX10_times 232 = .ok (.iload 7, 2) := by decide +kernel
theorem dX10_times_234 : decode cX10_times 234 = .ok (.iconst 2, 1) := by decide +kernel
theorem dX10_times_235 : decode cX10_times 235 = .ok (.iload 13, 2) := by decide +kernel
theorem dX10_times_237 : decode cX10_times 237 = .ok (.imul, 1) := by decide +kernel
theorem dX10_times_238 : decode cX10_times 238 = .ok (.iadd, 1) := by decide +kernel
theorem dX10_times_239 : decode cX10_times 239 = .ok (.iconst 1, 1) := by decide +kernel
theorem dX10_times_240 : decode cX10_times 240 = .ok (.iadd, 1) := by decide +kernel
theorem dX10_times_241 : decode cX10_times 241 = .ok (.iaload, 1) := by decide +kernel
theorem dX10_times_242 : decode cX10_times 242 = .ok (.if_icmp .ne 7, 3) := by decide +kernel
theorem dX10_times_245 : decode cX10_times 245 = .ok (.iconst 1, 1) := by decide +kernel
theorem dX10_times_246 : decode cX10_times 246 = .ok (.goto 4, 3) := by decide +kernel
theorem dX10_times_249 : decode cX10_times 249 = .ok (.iconst 0, 1) := by decide +kernel
theorem dX10_times_250 : decode cX10_times 250 = .ok (.istore 12, 2) := by decide +kernel
theorem dX10_times_252 : decode cX10_times 252 = .ok (.iinc 13 1, 3) := by decide +kernel
theorem dX10_times_255 : decode cX10_times 255 = .ok (.goto (-70), 3) := by decide +kernel
theorem dX10_times_258 : decode cX10_times 258 = .ok (.iload 12, 2) := by decide +kernel
theorem dX10_times_260 : decode cX10_times 260 = .ok (.ifCond .eq 19, 3) := by decide +kernel
theorem dX10_times_263 : decode cX10_times 263 = .ok (.iload 8, 2) := by decide +kernel
theorem dX10_times_265 : decode cX10_times 265 = .ok (.ifCond .ne 14, 3) := by decide +kernel
theorem dX10_times_268 : decode cX10_times 268 = .ok (.bipush 10, 2) := by decide +kernel
theorem dX10_times_270 : decode cX10_times 270 = .ok (.iload 10, 2) := by decide +kernel
theorem dX10_times_272 : decode cX10_times 272 = .ok (.imul, 1) := by decide +kernel
theorem dX10_times_273 : decode cX10_times 273 = .ok (.iload 11, 2) := by decide +kernel
theorem dX10_times_275 : decode cX10_times 275 = .ok (.iadd, 1) := by decide +kernel
theorem dX10_times_276 : decode cX10_times 276 = .ok (.goto 5, 3) := by decide +kernel
theorem dX10_times_279 : decode cX10_times 279 = .ok (.iload 9, 2) := by decide +kernel
theorem dX10_times_281 : decode cX10_times 281 = .ok (.istore 9, 2) := by decide +kernel
theorem dX10_times_283 : decode cX10_times 283 = .ok (.iload 8, 2) := by decide +kernel
theorem dX10_times_285 : decode cX10_times 285 = .ok (.iload 12, 2) := by decide +kernel
theorem dX10_times_287 : decode cX10_times 287 = .ok (.ifCond .eq 7, 3) := by decide +kernel
theorem dX10_times_290 : decode cX10_times 290 = .ok (.iconst 1, 1) := by decide +kernel
theorem dX10_times_291 : decode cX10_times 291 = .ok (.goto 4, 3) := by decide +kernel
theorem dX10_times_294 : decode cX10_times 294 = .ok (.iconst 0, 1) := by decide +kernel
theorem dX10_times_295 : decode cX10_times 295 = .ok (.iadd, 1) := by decide +kernel
theorem dX10_times_296 : decode cX10_times 296 = .ok (.istore 8, 2) := by decide +kernel
theorem dX10_times_298 : decode cX10_times 298 = .ok (.iinc 11 1, 3) := by decide +kernel
theorem dX10_times_301 : decode cX10_times 301 = .ok (.goto (-149), 3) := by decide +kernel
theorem dX10_times_304 : decode cX10_times 304 = .ok (.iinc 10 1, 3) := by decide +kernel
theorem dX10_times_307 : decode cX10_times 307 = .ok (.goto (-165), 3) := by decide +kernel
theorem dX10_times_310 : decode cX10_times 310 = .ok (.iload 5, 2) := by decide +kernel
theorem dX10_times_312 : decode cX10_times 312 = .ok (.ifCond .ne 8, 3) := by decide +kernel
theorem dX10_times_315 : decode cX10_times 315 = .ok (.iload 8, 2) := by decide +kernel
theorem dX10_times_317 : decode cX10_times 317 = .ok (.goto 32, 3) := by decide +kernel
theorem dX10_times_320 : decode cX10_times 320 = .ok (.iload 8, 2) := by decide +kernel
theorem dX10_times_322 : decode cX10_times 322 = .ok (.ifCond .ne 8, 3) := by decide +kernel
theorem dX10_times_325 : decode cX10_times 325 = .ok (.bipush (-4), 2) := by decide +kernel
theorem dX10_times_327 : decode cX10_times 327 = .ok (.goto 22, 3) := by decide +kernel
theorem dX10_times_330 : decode cX10_times 330 = .ok (.iload 5, 2) := by decide +kernel
theorem dX10_times_332 : decode cX10_times 332 = .ok (.iconst 1, 1) := by decide +kernel
theorem dX10_times_333 : decode cX10_times 333 = .ok (.if_icmp .ne 11, 3) := by decide +kernel
theorem dX10_times_336 : decode cX10_times 336 = .ok (.iload 9, 2) := by decide +kernel
theorem dX10_times_338 : decode cX10_times 338 = .ok (.bipush 10, 2) := by decide +kernel
theorem dX10_times_340 : decode cX10_times 340 = .ok (.idiv, 1) := by decide +kernel
theorem dX10_times_341 : decode cX10_times 341 = .ok (.goto 8, 3) := by decide +kernel
theorem dX10_times_344 : decode cX10_times 344 = .ok (.iload 9, 2) := by decide +kernel
theorem dX10_times_346 : decode cX10_times 346 = .ok (.bipush 10, 2) := by decide +kernel
theorem dX10_times_348 : decode cX10_times 348 = .ok (.irem, 1) := by decide +kernel
theorem dX10_times_349 : decode cX10_times 349 = .ok (.ireturn, 1) := by decide +kernel
theorem dX10_without_0 : decode cX10_without 0 = .ok (.aload_n 0, 1) := by decide +kernel
theorem dX10_without_1 : decode cX10_without 1 = .ok (.iload_n 1, 1) := by decide +kernel
theorem dX10_without_2 : decode cX10_without 2 = .ok (.invokevirtual 119, 3) := by decide +kernel
theorem dX10_without_5 : decode cX10_without 5 = .ok (.ifCond .ne 7, 3) := by decide +kernel
theorem dX10_without_8 : decode cX10_without 8 = .ok (.ldc_w 261, 3) := by decide +kernel
theorem dX10_without_11 : decode cX10_without 11 = .ok (.ireturn, 1) := by decide +kernel
theorem dX10_without_12 : decode cX10_without 12 = .ok (.aload_n 0, 1) := by decide +kernel
theorem dX10_without_13 : decode cX10_without 13 = .ok (.invokevirtual 104, 3) := by decide +kernel
theorem dX10_without_16 : decode cX10_without 16 = .ok (.aload_n 0, 1) := by decide +kernel
theorem dX10_without_17 : decode cX10_without 17 = .ok (.invokevirtual 228, 3) := by decide +kernel
theorem dX10_without_20 : decode cX10_without 20 = .ok (.aload_n 0, 1) := by decide +kernel
theorem dX10_without_21 : decode cX10_without 21 = .ok (.getfield 186, 3) := by decide +kernel
theorem dX10_without_24 : decode cX10_without 24 = .ok (.istore_n 2, 1) := by decide +kernel
theorem dX10_without_25 : decode cX10_without 25 = .ok (.aload_n 0, 1) := by decide +kernel
theorem dX10_without_26 : decode cX10_without 26 = .ok (.iload_n 1, 1) := by decide +kernel
theorem dX10_without_27 : decode cX10_without 27 = .ok (.putfield 90, 3) := by decide +kernel
theorem dX10_without_30 : decode cX10_without 30 = .ok (.aload_n 0, 1) := by decide +kernel
theorem dX10_without_31 : decode cX10_without 31 = .ok (.invokevirtual 228, 3) := by decide +kernel
theorem dX10_without_34 : decode cX10_without 34 = .ok (.iload_n 2, 1) := by decide +kernel
theorem dX10_without_35 : decode cX10_without 35 = .ok (.aload_n 0, 1) := by decide +kernel
theorem dX10_without_36 : decode cX10_without 36 = .ok (.getfield 186, 3) := by decide +kernel
theorem dX10_without_39 : decode cX10_without 39 = .ok (.isub, 1) := by decide +kernel
theorem dX10_without_40 : decode cX10_without 40 = .ok (.ireturn, 1) := by decide +kernel
theorem dX10_image_0 : decode cX10_image 0 = .ok (.iconst 0, 1) := by decide +kernel
theorem dX10_image_1 : decode cX10_image 1 = .ok (.istore_n 1, 1) := by decide +kernel
theorem dX10_image_2 : decode cX10_image 2 = .ok (.iload_n 1, 1) := by decide +kernel
theorem dX10_image_3 : decode cX10_image 3 = .ok (.bipush 46, 2) := by decide +kernel
theorem dX10_image_5 : decode cX10_image 5 = .ok (.if_icmp .ge 21, 3) := by decide +kernel
theorem dX10_image_8 : decode cX10_image 8 = .ok (.aload_n 0, 1) := by decide +kernel
theorem dX10_image_9 : decode cX10_image 9 = .ok (.getfield 61, 3) := by decide +kernel
theorem dX10_image_12 : decode cX10_image 12 = .ok (.iload_n 1, 1) := by decide +kernel
theorem dX10_image_13 : decode cX10_image 13 = .ok (.aload_n 0, 1) := by decide +kernel
theorem dX10_image_14 : decode cX10_image 14 = .ok (.getfield 7, 3) := by decide +kernel
theorem dX10_image_17 : decode cX10_image 17 = .ok (.iload_n 1, 1) := by decide +kernel
theorem dX10_image_18 : decode cX10_image 18 = .ok (.iaload, 1) := by decide +kernel
theorem dX10_image_19 : decode cX10_image 19 = .ok (.iastore, 1) := by decide +kernel
theorem dX10_image_20 : decode cX10_image 20 = .ok (.iinc 1 1, 3) := by decide +kernel
theorem dX10_image_23 : decode cX10_image 23 = .ok (.goto (-21), 3) := by decide +kernel
theorem dX10_image_26 : decode cX10_image 26 = .ok (.aload_n 0, 1) := by decide +kernel
theorem dX10_image_27 : decode cX10_image 27 = .ok (.iconst 1, 1) := by decide +kernel
theorem dX10_image_28 : decode cX10_image 28 = .ok (.putfield 262, 3) := by decide +kernel
theorem dX10_image_31 : decode cX10_image 31 = .ok (.iconst 1, 1) := by decide +kernel
theorem dX10_image_32 : decode cX10_image 32 = .ok (.ireturn, 1) := by decide +kernel
theorem dX10_restore_0 : decode cX10_restore 0 = .ok (.aload_n 0, 1) := by decide +kernel
theorem dX10_restore_1 : decode cX10_restore 1 = .ok (.getfield 262, 3) := by decide +kernel
theorem dX10_restore_4 : decode cX10_restore 4 = .ok (.ifCond .ne 6, 3) := by decide +kernel
theorem dX10_restore_7 : decode cX10_restore 7 = .ok (.bipush (-4), 2) := by decide +kernel
theorem dX10_restore_9 : decode cX10_restore 9 = .ok (.ireturn, 1) := by decide +kernel
theorem dX10_restore_10 : decode cX10_restore 10 = .ok (.iconst 0, 1) := by decide +kernel
theorem dX10_restore_11 : decode cX10_restore 11 = .ok (.istore_n 1, 1) := by decide +kernel
theorem dX10_restore_12 : decode cX10_restore 12 = .ok (.iload_n 1, 1) := by decide +kernel
theorem dX10_restore_13 : decode cX10_restore 13 = .ok (.bipush 46, 2) := by decide +kernel
theorem dX10_restore_15 : decode cX10_restore 15 = .ok (.if_icmp .ge 21, 3) := by decide +kernel
theorem dX10_restore_18 : decode cX10_restore 18 = .ok (.aload_n 0, 1) := by decide +kernel
theorem dX10_restore_19 : decode cX10_restore 19 = .ok (.getfield 7, 3) := by decide +kernel
theorem dX10_restore_22 : decode cX10_restore 22 = .ok (.iload_n 1, 1) := by decide +kernel
theorem dX10_restore_23 : decode cX10_restore 23 = .ok (.aload_n 0, 1) := by decide +kernel
theorem dX10_restore_24 : decode cX10_restore 24 = .ok (.getfield 61, 3) := by decide +kernel
theorem dX10_restore_27 : decode cX10_restore 27 = .ok (.iload_n 1, 1) := by decide +kernel
theorem dX10_restore_28 : decode cX10_restore 28 = .ok (.iaload, 1) := by decide +kernel
theorem dX10_restore_29 : decode cX10_restore 29 = .ok (.iastore, 1) := by decide +kernel
theorem dX10_restore_30 : decode cX10_restore 30 = .ok (.iinc 1 1, 3) := by decide +kernel
theorem dX10_restore_33 : decode cX10_restore 33 = .ok (.goto (-21), 3) := by decide +kernel
theorem dX10_restore_36 : decode cX10_restore 36 = .ok (.iconst 1, 1) := by decide +kernel
theorem dX10_restore_37 : decode cX10_restore 37 = .ok (.ireturn, 1) := by decide +kernel
theorem dX10_isSheet_0 : decode cX10_isSheet 0 = .ok (.iload_n 0, 1) := by decide +kernel
theorem dX10_isSheet_1 : decode cX10_isSheet 1 = .ok (.i2l, 1) := by decide +kernel
theorem dX10_isSheet_2 : decode cX10_isSheet 2 = .ok (.lconst 0, 1) := by decide +kernel
theorem dX10_isSheet_3 : decode cX10_isSheet 3 = .ok (.ldc2_w 226, 3) := by decide +kernel
theorem dX10_isSheet_6 : decode cX10_isSheet 6 = .ok (.invokestatic 75, 3) := by decide +kernel
theorem dX10_isSheet_9 : decode cX10_isSheet 9 = .ok (.ifCond .eq 19, 3) := by decide +kernel
theorem dX10_isSheet_12 : decode cX10_isSheet 12 = .ok (.iload_n 1, 1) := by decide +kernel
theorem dX10_isSheet_13 : decode cX10_isSheet 13 = .ok (.i2l, 1) := by decide +kernel
theorem dX10_isSheet_14 : decode cX10_isSheet 14 = .ok (.lconst 0, 1) := by decide +kernel
theorem dX10_isSheet_15 : decode cX10_isSheet 15 = .ok (.ldc2_w 253, 3) := by decide +kernel
theorem dX10_isSheet_18 : decode cX10_isSheet 18 = .ok (.invokestatic 75, 3) := by decide +kernel
theorem dX10_isSheet_21 : decode cX10_isSheet 21 = .ok (.ifCond .eq 7, 3) := by decide +kernel
theorem dX10_isSheet_24 : decode cX10_isSheet 24 = .ok (.iconst 1, 1) := by decide +kernel
theorem dX10_isSheet_25 : decode cX10_isSheet 25 = .ok (.goto 4, 3) := by decide +kernel
theorem dX10_isSheet_28 : decode cX10_isSheet 28 = .ok (.iconst 0, 1) := by decide +kernel
theorem dX10_isSheet_29 : decode cX10_isSheet 29 = .ok (.ireturn, 1) := by decide +kernel
theorem dX10_sheet_0 : decode cX10_sheet 0 = .ok (.iload_n 1, 1) := by decide +kernel
theorem dX10_sheet_1 : decode cX10_sheet 1 = .ok (.iload_n 2, 1) := by decide +kernel
theorem dX10_sheet_2 : decode cX10_sheet 2 = .ok (.invokestatic 250, 3) := by decide +kernel
theorem dX10_sheet_5 : decode cX10_sheet 5 = .ok (.ifCond .eq 9, 3) := by decide +kernel
theorem dX10_sheet_8 : decode cX10_sheet 8 = .ok (.iload_n 3, 1) := by decide +kernel
theorem dX10_sheet_9 : decode cX10_sheet 9 = .ok (.bipush 16, 2) := by decide +kernel
theorem dX10_sheet_11 : decode cX10_sheet 11 = .ok (.if_icmp .le 5, 3) := by decide +kernel
theorem dX10_sheet_14 : decode cX10_sheet 14 = .ok (.iconst (-1), 1) := by decide +kernel
theorem dX10_sheet_15 : decode cX10_sheet 15 = .ok (.ireturn, 1) := by decide +kernel
theorem dX10_sheet_16 : decode cX10_sheet 16 = .ok (.iload_n 3, 1) := by decide +kernel
theorem dX10_sheet_17 : decode cX10_sheet 17 = .ok (.ifCond .ge 6, 3) := by decide +kernel
theorem dX10_sheet_20 : decode cX10_sheet 20 = .ok (.bipush (-14), 2) := by decide +kernel
theorem dX10_sheet_22 : decode cX10_sheet 22 = .ok (.ireturn, 1) := by decide +kernel
theorem dX10_sheet_23 : decode cX10_sheet 23 = .ok (.aload_n 0, 1) := by decide +kernel
theorem dX10_sheet_24 : decode cX10_sheet 24 = .ok (.getfield 64, 3) := by decide +kernel
theorem dX10_sheet_27 : decode cX10_sheet 27 = .ok (.iload_n 1, 1) := by decide +kernel
theorem dX10_sheet_28 : decode cX10_sheet 28 = .ok (.iload_n 2, 1) := by decide +kernel
theorem dX10_sheet_29 : decode cX10_sheet 29 = .ok (.iastore, 1) := by decide +kernel
theorem dX10_sheet_30 : decode cX10_sheet 30 = .ok (.aload_n 0, 1) := by decide +kernel
theorem dX10_sheet_31 : decode cX10_sheet 31 = .ok (.getfield 67, 3) := by decide +kernel
theorem dX10_sheet_34 : decode cX10_sheet 34 = .ok (.iload_n 1, 1) := by decide +kernel
theorem dX10_sheet_35 : decode cX10_sheet 35 = .ok (.iload_n 3, 1) := by decide +kernel
theorem dX10_sheet_36 : decode cX10_sheet 36 = .ok (.iastore, 1) := by decide +kernel
theorem dX10_sheet_37 : decode cX10_sheet 37 = .ok (.iconst 0, 1) := by decide +kernel
theorem dX10_sheet_38 : decode cX10_sheet 38 = .ok (.istore 4, 2) := by decide +kernel
theorem dX10_sheet_40 : decode cX10_sheet 40 = .ok (.iload 4, 2) := by decide +kernel
theorem dX10_sheet_42 : decode cX10_sheet 42 = .ok (.bipush 16, 2) := by decide +kernel
theorem dX10_sheet_44 : decode cX10_sheet 44 = .ok (.if_icmp .ge 22, 3) := by decide +kernel
theorem dX10_sheet_47 : decode cX10_sheet 47 = .ok (.aload_n 0, 1) := by decide +kernel
theorem dX10_sheet_48 : decode cX10_sheet 48 = .ok (.getfield 70, 3) := by decide +kernel
theorem dX10_sheet_51 : decode cX10_sheet 51 = .ok (.bipush 16, 2) := by decide +kernel
theorem dX10_sheet_53 : decode cX10_sheet 53 = .ok (.iload_n 1, 1) := by decide +kernel
theorem dX10_sheet_54 : decode cX10_sheet 54 = .ok (.imul, 1) := by decide +kernel
theorem dX10_sheet_55 : decode cX10_sheet 55 = .ok (.iload 4, 2) := by decide +kernel
theorem dX10_sheet_57 : decode cX10_sheet 57 = .ok (.iadd, 1) := by decide +kernel
theorem dX10_sheet_58 : decode cX10_sheet 58 = .ok (.iconst 0, 1) := by decide +kernel
theorem dX10_sheet_59 : decode cX10_sheet 59 = .ok (.iastore, 1) := by decide +kernel
theorem dX10_sheet_60 : decode cX10_sheet 60 = .ok (.iinc 4 1, 3) := by decide +kernel
theorem dX10_sheet_63 : decode cX10_sheet 63 = .ok (.goto (-23), 3) := by decide +kernel
theorem dX10_sheet_66 : decode cX10_sheet 66 = .ok (.iload_n 3, 1) := by decide +kernel
theorem dX10_sheet_67 : decode cX10_sheet 67 = .ok (.ireturn, 1) := by decide +kernel
theorem dX10_drop_0 : decode cX10_drop 0 = .ok (.iload_n 1, 1) := by decide +kernel
theorem dX10_drop_1 : decode cX10_drop 1 = .ok (.i2l, 1) := by decide +kernel
theorem dX10_drop_2 : decode cX10_drop 2 = .ok (.lconst 0, 1) := by decide +kernel
theorem dX10_drop_3 : decode cX10_drop 3 = .ok (.ldc2_w 226, 3) := by decide +kernel
theorem dX10_drop_6 : decode cX10_drop 6 = .ok (.invokestatic 75, 3) := by decide +kernel
theorem dX10_drop_9 : decode cX10_drop 9 = .ok (.ifCond .ne 5, 3) := by decide +kernel
theorem dX10_drop_12 : decode cX10_drop 12 = .ok (.iconst (-1), 1) := by decide +kernel
theorem dX10_drop_13 : decode cX10_drop 13 = .ok (.ireturn, 1) := by decide +kernel
theorem dX10_drop_14 : decode cX10_drop 14 = .ok (.aload_n 0, 1) := by decide +kernel
theorem dX10_drop_15 : decode cX10_drop 15 = .ok (.getfield 64, 3) := by decide +kernel
theorem dX10_drop_18 : decode cX10_drop 18 = .ok (.iload_n 1, 1) := by decide +kernel
theorem dX10_drop_19 : decode cX10_drop 19 = .ok (.iaload, 1) := by decide +kernel
theorem dX10_drop_20 : decode cX10_drop 20 = .ok (.ifCond .ge 6, 3) := by decide +kernel
theorem dX10_drop_23 : decode cX10_drop 23 = .ok (.bipush (-11), 2) := by decide +kernel
theorem dX10_drop_25 : decode cX10_drop 25 = .ok (.ireturn, 1) := by decide +kernel
theorem dX10_drop_26 : decode cX10_drop 26 = .ok (.aload_n 0, 1) := by decide +kernel
theorem dX10_drop_27 : decode cX10_drop 27 = .ok (.getfield 64, 3) := by decide +kernel
theorem dX10_drop_30 : decode cX10_drop 30 = .ok (.iload_n 1, 1) := by decide +kernel
theorem dX10_drop_31 : decode cX10_drop 31 = .ok (.iconst (-1), 1) := by decide +kernel
theorem dX10_drop_32 : decode cX10_drop 32 = .ok (.iastore, 1) := by decide +kernel
theorem dX10_drop_33 : decode cX10_drop 33 = .ok (.aload_n 0, 1) := by decide +kernel
theorem dX10_drop_34 : decode cX10_drop 34 = .ok (.getfield 67, 3) := by decide +kernel
theorem dX10_drop_37 : decode cX10_drop 37 = .ok (.iload_n 1, 1) := by decide +kernel
theorem dX10_drop_38 : decode cX10_drop 38 = .ok (.iaload, 1) := by decide +kernel
theorem dX10_drop_39 : decode cX10_drop 39 = .ok (.ireturn, 1) := by decide +kernel
theorem dX10_lacksRow_0 : decode cX10_lacksRow 0 = .ok (.aload_n 0, 1) := by decide +kernel
theorem dX10_lacksRow_1 : decode cX10_lacksRow 1 = .ok (.getfield 64, 3) := by decide +kernel
theorem dX10_lacksRow_4 : decode cX10_lacksRow 4 = .ok (.iload_n 1, 1) := by decide +kernel
theorem dX10_lacksRow_5 : decode cX10_lacksRow 5 = .ok (.iaload, 1) := by decide +kernel
theorem dX10_lacksRow_6 : decode cX10_lacksRow 6 = .ok (.iload_n 2, 1) := by decide +kernel
theorem dX10_lacksRow_7 : decode cX10_lacksRow 7 = .ok (.if_icmp .eq 20, 3) := by decide +kernel
theorem dX10_lacksRow_10 : decode cX10_lacksRow 10 = .ok (.aload_n 0, 1) := by decide +kernel
theorem dX10_lacksRow_11 : decode cX10_lacksRow 11 = .ok (.getfield 64, 3) := by decide +kernel
theorem dX10_lacksRow_14 : decode cX10_lacksRow 14 = .ok (.iload_n 1, 1) := by decide +kernel
theorem dX10_lacksRow_15 : decode cX10_lacksRow 15 = .ok (.iaload, 1) := by decide +kernel
theorem dX10_lacksRow_16 : decode cX10_lacksRow 16 = .ok (.ifCond .ge 8, 3) := by decide +kernel
theorem dX10_lacksRow_19 : decode cX10_lacksRow 19 = .ok (.bipush (-11), 2) := by decide +kernel
theorem dX10_lacksRow_21 : decode cX10_lacksRow 21 = .ok (.goto 5, 3) := by decide +kernel
theorem dX10_lacksRow_24 : decode cX10_lacksRow 24 = .ok (.bipush (-12), 2) := by decide +kernel
theorem dX10_lacksRow_26 : decode cX10_lacksRow 26 = .ok (.ireturn, 1) := by decide +kernel
theorem dX10_lacksRow_27 : decode cX10_lacksRow 27 = .ok (.iload_n 3, 1) := by decide +kernel
theorem dX10_lacksRow_28 : decode cX10_lacksRow 28 = .ok (.i2l, 1) := by decide +kernel
theorem dX10_lacksRow_29 : decode cX10_lacksRow 29 = .ok (.lconst 0, 1) := by decide +kernel
theorem dX10_lacksRow_30 : decode cX10_lacksRow 30 = .ok (.aload_n 0, 1) := by decide +kernel
theorem dX10_lacksRow_31 : decode cX10_lacksRow 31 = .ok (.getfield 67, 3) := by decide +kernel
theorem dX10_lacksRow_34 : decode cX10_lacksRow 34 = .ok (.iload_n 1, 1) := by decide +kernel
theorem dX10_lacksRow_35 : decode cX10_lacksRow 35 = .ok (.iaload, 1) := by decide +kernel
theorem dX10_lacksRow_36 : decode cX10_lacksRow 36 = .ok (.iload 4, 2) := by decide +kernel
theorem dX10_lacksRow_38 : decode cX10_lacksRow 38 = .ok (.isub, 1) := by decide +kernel
theorem dX10_lacksRow_39 : decode cX10_lacksRow 39 = .ok (.i2l, 1) := by decide +kernel
theorem dX10_lacksRow_40 : decode cX10_lacksRow 40 = .ok (.invokestatic 75, 3) := by decide +kernel
theorem dX10_lacksRow_43 : decode cX10_lacksRow 43 = .ok (.ifCond .eq 7, 3) := by decide +kernel
theorem dX10_lacksRow_46 : decode cX10_lacksRow 46 = .ok (.iconst 0, 1) := by decide +kernel
theorem dX10_lacksRow_47 : decode cX10_lacksRow 47 = .ok (.goto 5, 3) := by decide +kernel
theorem dX10_lacksRow_50 : decode cX10_lacksRow 50 = .ok (.bipush (-13), 2) := by decide +kernel
theorem dX10_lacksRow_52 : decode cX10_lacksRow 52 = .ok (.ireturn, 1) := by decide +kernel
theorem dX10_cutTo_0 : decode cX10_cutTo 0 = .ok (.iload_n 0, 1) := by decide +kernel
theorem dX10_cutTo_1 : decode cX10_cutTo 1 = .ok (.ifCond .ne 13, 3) := by decide +kernel
theorem dX10_cutTo_4 : decode cX10_cutTo 4 = .ok (.iload_n 1, 1) := by decide +kernel
theorem dX10_cutTo_5 : decode cX10_cutTo 5 = .ok (.bipush 24, 2) := by decide +kernel
theorem dX10_cutTo_7 : decode cX10_cutTo 7 = .ok (.ishl, 1) := by decide +kernel
theorem dX10_cutTo_8 : decode cX10_cutTo 8 = .ok (.bipush 24, 2) := by decide +kernel
theorem dX10_cutTo_10 : decode cX10_cutTo 10 = .ok (.ishr, 1) := by decide +kernel
theorem dX10_cutTo_11 : decode cX10_cutTo 11 = .ok (.goto 19, 3) := by decide +kernel
theorem dX10_cutTo_14 : decode cX10_cutTo 14 = .ok (.iload_n 0, 1) := by decide +kernel
theorem dX10_cutTo_15 : decode cX10_cutTo 15 = .ok (.iconst 1, 1) := by decide +kernel
theorem dX10_cutTo_16 : decode cX10_cutTo 16 = .ok (.if_icmp .ne 13, 3) := by decide +kernel
theorem dX10_cutTo_19 : decode cX10_cutTo 19 = .ok (.iload_n 1, 1) := by decide +kernel
theorem dX10_cutTo_20 : decode cX10_cutTo 20 = .ok (.bipush 16, 2) := by decide +kernel
theorem dX10_cutTo_22 : decode cX10_cutTo 22 = .ok (.ishl, 1) := by decide +kernel
theorem dX10_cutTo_23 : decode cX10_cutTo 23 = .ok (.bipush 16, 2) := by decide +kernel
theorem dX10_cutTo_25 : decode cX10_cutTo 25 = .ok (.ishr, 1) := by decide +kernel
theorem dX10_cutTo_26 : decode cX10_cutTo 26 = .ok (.goto 4, 3) := by decide +kernel
theorem dX10_cutTo_29 : decode cX10_cutTo 29 = .ok (.iload_n 1, 1) := by decide +kernel
theorem dX10_cutTo_30 : decode cX10_cutTo 30 = .ok (.ireturn, 1) := by decide +kernel
theorem dX10_item_0 : decode cX10_item 0 = .ok (.iload_n 1, 1) := by decide +kernel
theorem dX10_item_1 : decode cX10_item 1 = .ok (.iload_n 2, 1) := by decide +kernel
theorem dX10_item_2 : decode cX10_item 2 = .ok (.invokestatic 250, 3) := by decide +kernel
theorem dX10_item_5 : decode cX10_item 5 = .ok (.ifCond .ne 5, 3) := by decide +kernel
theorem dX10_item_8 : decode cX10_item 8 = .ok (.iconst (-1), 1) := by decide +kernel
theorem dX10_item_9 : decode cX10_item 9 = .ok (.ireturn, 1) := by decide +kernel
theorem dX10_item_10 : decode cX10_item 10 = .ok (.aload_n 0, 1) := by decide +kernel
theorem dX10_item_11 : decode cX10_item 11 = .ok (.iload_n 1, 1) := by decide +kernel
theorem dX10_item_12 : decode cX10_item 12 = .ok (.iload_n 2, 1) := by decide +kernel
theorem dX10_item_13 : decode cX10_item 13 = .ok (.iload_n 3, 1) := by decide +kernel
theorem dX10_item_14 : decode cX10_item 14 = .ok (.iconst 1, 1) := by decide +kernel
theorem dX10_item_15 : decode cX10_item 15 = .ok (.invokevirtual 255, 3) := by decide +kernel
theorem dX10_item_18 : decode cX10_item 18 = .ok (.istore 5, 2) := by decide +kernel
theorem dX10_item_20 : decode cX10_item 20 = .ok (.iload 5, 2) := by decide +kernel
theorem dX10_item_22 : decode cX10_item 22 = .ok (.ifCond .ge 6, 3) := by decide +kernel
theorem dX10_item_25 : decode cX10_item 25 = .ok (.iload 5, 2) := by decide +kernel
theorem dX10_item_27 : decode cX10_item 27 = .ok (.ireturn, 1) := by decide +kernel
theorem dX10_item_28 : decode cX10_item 28 = .ok (.aload_n 0, 1) := by decide +kernel
theorem dX10_item_29 : decode cX10_item 29 = .ok (.getfield 70, 3) := by decide +kernel
theorem dX10_item_32 : decode cX10_item 32 = .ok (.bipush 16, 2) := by decide +kernel
theorem dX10_item_34 : decode cX10_item 34 = .ok (.iload_n 1, 1) := by decide +kernel
theorem dX10_item_35 : decode cX10_item 35 = .ok (.imul, 1) := by decide +kernel
theorem dX10_item_36 : decode cX10_item 36 = .ok (.iload_n 3, 1) := by decide +kernel
theorem dX10_item_37 : decode cX10_item 37 = .ok (.iadd, 1) := by decide +kernel
theorem dX10_item_38 : decode cX10_item 38 = .ok (.iload_n 2, 1) := by decide +kernel
theorem dX10_item_39 : decode cX10_item 39 = .ok (.iload 4, 2) := by decide +kernel
theorem dX10_item_41 : decode cX10_item 41 = .ok (.invokestatic 266, 3) := by decide +kernel
theorem dX10_item_44 : decode cX10_item 44 = .ok (.iastore, 1) := by decide +kernel
theorem dX10_item_45 : decode cX10_item 45 = .ok (.iconst 1, 1) := by decide +kernel
theorem dX10_item_46 : decode cX10_item 46 = .ok (.ireturn, 1) := by decide +kernel
theorem dX10_film_0 : decode cX10_film 0 = .ok (.iload_n 1, 1) := by decide +kernel
theorem dX10_film_1 : decode cX10_film 1 = .ok (.iload_n 2, 1) := by decide +kernel
theorem dX10_film_2 : decode cX10_film 2 = .ok (.invokestatic 250, 3) := by decide +kernel
theorem dX10_film_5 : decode cX10_film 5 = .ok (.ifCond .ne 5, 3) := by decide +kernel
theorem dX10_film_8 : decode cX10_film 8 = .ok (.iconst (-1), 1) := by decide +kernel
theorem dX10_film_9 : decode cX10_film 9 = .ok (.ireturn, 1) := by decide +kernel
theorem dX10_film_10 : decode cX10_film 10 = .ok (.aload_n 0, 1) := by decide +kernel
theorem dX10_film_11 : decode cX10_film 11 = .ok (.iload_n 1, 1) := by decide +kernel
theorem dX10_film_12 : decode cX10_film 12 = .ok (.iload_n 2, 1) := by decide +kernel
theorem dX10_film_13 : decode cX10_film 13 = .ok (.iload_n 3, 1) := by decide +kernel
theorem dX10_film_14 : decode cX10_film 14 = .ok (.aload_n 0, 1) := by decide +kernel
theorem dX10_film_15 : decode cX10_film 15 = .ok (.getfield 7, 3) := by decide +kernel
theorem dX10_film_18 : decode cX10_film 18 = .ok (.bipush 9, 2) := by decide +kernel
theorem dX10_film_20 : decode cX10_film 20 = .ok (.iaload, 1) := by decide +kernel
theorem dX10_film_21 : decode cX10_film 21 = .ok (.invokevirtual 255, 3) := by decide +kernel
theorem dX10_film_24 : decode cX10_film 24 = .ok (.istore 4, 2) := by decide +kernel
theorem dX10_film_26 : decode cX10_film 26 = .ok (.iload 4, 2) := by decide +kernel
theorem dX10_film_28 : decode cX10_film 28 = .ok (.ifCond .ge 6, 3) := by decide +kernel
theorem dX10_film_31 : decode cX10_film 31 = .ok (.iload 4, 2) := by decide +kernel
theorem dX10_film_33 : decode cX10_film 33 = .ok (.ireturn, 1) := by decide +kernel
theorem dX10_film_34 : decode cX10_film 34 = .ok (.aload_n 0, 1) := by decide +kernel
theorem dX10_film_35 : decode cX10_film 35 = .ok (.invokevirtual 104, 3) := by decide +kernel
theorem dX10_film_38 : decode cX10_film 38 = .ok (.aload_n 0, 1) := by decide +kernel
theorem dX10_film_39 : decode cX10_film 39 = .ok (.invokevirtual 228, 3) := by decide +kernel
theorem dX10_film_42 : decode cX10_film 42 = .ok (.iconst 0, 1) := by decide +kernel
theorem dX10_film_43 : decode cX10_film 43 = .ok (.istore 5, 2) := by decide +kernel
theorem dX10_film_45 : decode cX10_film 45 = .ok (.iload 5, 2) := by decide +kernel
theorem dX10_film_47 : decode cX10_film 47 = .ok (.aload_n 0, 1) := by decide +kernel
theorem dX10_film_48 : decode cX10_film 48 = .ok (.getfield 7, 3) := by decide +kernel
theorem dX10_film_51 : decode cX10_film 51 = .ok (.bipush 9, 2) := by decide +kernel
theorem dX10_film_53 : decode cX10_film 53 = .ok (.iaload, 1) := by decide +kernel
theorem dX10_film_54 : decode cX10_film 54 = .ok (.if_icmp .ge 49, 3) := by decide +kernel
theorem dX10_film_57 : decode cX10_film 57 = .ok (.aload_n 0, 1) := by decide +kernel
theorem dX10_film_58 : decode cX10_film 58 = .ok (.getfield 70, 3) := by decide +kernel
theorem dX10_film_61 : decode cX10_film 61 = .ok (.bipush 16, 2) := by decide +kernel
theorem dX10_film_63 : decode cX10_film 63 = .ok (.iload_n 1, 1) := by decide +kernel
theorem dX10_film_64 : decode cX10_film 64 = .ok (.imul, 1) := by decide +kernel
theorem dX10_film_65 : decode cX10_film 65 = .ok (.iload_n 3, 1) := by decide +kernel
theorem dX10_film_66 : decode cX10_film 66 = .ok (.iadd, 1) := by decide +kernel
theorem dX10_film_67 : decode cX10_film 67 = .ok (.iload 5, 2) := by decide +kernel
theorem dX10_film_69 : decode cX10_film 69 = .ok (.iadd, 1) := by decide +kernel
theorem dX10_film_70 : decode cX10_film 70 = .ok (.iload_n 2, 1) := by decide +kernel
theorem dX10_film_71 : decode cX10_film 71 = .ok (.aload_n 0, 1) := by decide +kernel
theorem dX10_film_72 : decode cX10_film 72 = .ok (.getfield 34, 3) := by decide +kernel
theorem dX10_film_75 : decode cX10_film 75 = .ok (.iload 5, 2) := by decide +kernel
theorem dX10_film_77 : decode cX10_film 77 = .ok (.iaload, 1) := by decide +kernel
theorem dX10_film_78 : decode cX10_film 78 = .ok (.ifCond .ge 8, 3) := by decide +kernel
theorem dX10_film_81 : decode cX10_film 81 = .ok (.bipush 120, 2) := by decide +kernel
theorem dX10_film_83 : decode cX10_film 83 = .ok (.goto 10, 3) := by decide +kernel
theorem dX10_film_86 : decode cX10_film 86 = .ok (.aload_n 0, 1) := by decide +kernel
theorem dX10_film_87 : decode cX10_film 87 = .ok (.getfield 34, 3) := by decide +kernel
theorem dX10_film_90 : decode cX10_film 90 = .ok (.iload 5, 2) := by decide +kernel
theorem dX10_film_92 : decode cX10_film 92 = .ok (.iaload, 1) := by decide +kernel
theorem dX10_film_93 : decode cX10_film 93 = .ok (.invokestatic 266, 3) := by decide +kernel
theorem dX10_film_96 : decode cX10_film 96 = .ok (.iastore, 1) := by decide +kernel
theorem dX10_film_97 : decode cX10_film 97 = .ok (.iinc 5 1, 3) := by decide +kernel
theorem dX10_film_100 : decode cX10_film 100 = .ok (.goto (-55), 3) := by decide +kernel
theorem dX10_film_103 : decode cX10_film 103 = .ok (.aload_n 0, 1) := by decide +kernel
theorem dX10_film_104 : decode cX10_film 104 = .ok (.getfield 7, 3) := by decide +kernel
theorem dX10_film_107 : decode cX10_film 107 = .ok (.bipush 9, 2) := by decide +kernel
theorem dX10_film_109 : decode cX10_film 109 = .ok (.iaload, 1) := by decide +kernel
theorem dX10_film_110 : decode cX10_film 110 = .ok (.ireturn, 1) := by decide +kernel
