theorem dX7_init_0 : decode cX7_init 0 = .ok (.aload_n 0, 1) := by decide +kernel
theorem dX7_init_1 : decode cX7_init 1 = .ok (.invokespecial 3, 3) := by decide +kernel
theorem dX7_init_4 : decode cX7_init 4 = .ok (.aload_n 0, 1) := by decide +kernel
theorem dX7_init_5 : decode cX7_init 5 = .ok (.bipush 24, 2) := by decide +kernel
theorem dX7_init_7 : decode cX7_init 7 = .ok (.newarray .int, 2) := by decide +kernel
theorem dX7_init_9 : decode cX7_init 9 = .ok (.putfield 9, 3) := by decide +kernel
theorem dX7_init_12 : decode cX7_init 12 = .ok (.aload_n 0, 1) := by decide +kernel
theorem dX7_init_13 : decode cX7_init 13 = .ok (.bipush 96, 2) := by decide +kernel
theorem dX7_init_15 : decode cX7_init 15 = .ok (.newarray .int, 2) := by decide +kernel
theorem dX7_init_17 : decode cX7_init 17 = .ok (.putfield 13, 3) := by decide +kernel
theorem dX7_init_20 : decode cX7_init 20 = .ok (.aload_n 0, 1) := by decide +kernel
theorem dX7_init_21 : decode cX7_init 21 = .ok (.bipush 96, 2) := by decide +kernel
theorem dX7_init_23 : decode cX7_init 23 = .ok (.newarray .int, 2) := by decide +kernel
theorem dX7_init_25 : decode cX7_init 25 = .ok (.putfield 16, 3) := by decide +kernel
theorem dX7_init_28 : decode cX7_init 28 = .ok (.aload_n 0, 1) := by decide +kernel
theorem dX7_init_29 : decode cX7_init 29 = .ok (.bipush 9, 2) := by decide +kernel
theorem dX7_init_31 : decode cX7_init 31 = .ok (.newarray .int, 2) := by decide +kernel
theorem dX7_init_33 : decode cX7_init 33 = .ok (.dup, 1) := by decide +kernel
theorem dX7_init_34 : decode cX7_init 34 = .ok (.iconst 0, 1) := by decide +kernel
theorem dX7_init_35 : decode cX7_init 35 = .ok (.iconst 1, 1) := by decide +kernel
theorem dX7_init_36 : decode cX7_init 36 = .ok (.iastore, 1) := by decide +kernel
theorem dX7_init_37 : decode cX7_init 37 = .ok (.dup, 1) := by decide +kernel
theorem dX7_init_38 : decode cX7_init 38 = .ok (.iconst 1, 1) := by decide +kernel
theorem dX7_init_39 : decode cX7_init 39 = .ok (.iconst 2, 1) := by decide +kernel
theorem dX7_init_40 : decode cX7_init 40 = .ok (.iastore, 1) := by decide +kernel
theorem dX7_init_41 : decode cX7_init 41 = .ok (.dup, 1) := by decide +kernel
theorem dX7_init_42 : decode cX7_init 42 = .ok (.iconst 2, 1) := by decide +kernel
theorem dX7_init_43 : decode cX7_init 43 = .ok (.iconst 3, 1) := by decide +kernel
theorem dX7_init_44 : decode cX7_init 44 = .ok (.iastore, 1) := by decide +kernel
theorem dX7_init_45 : decode cX7_init 45 = .ok (.dup, 1) := by decide +kernel
theorem dX7_init_46 : decode cX7_init 46 = .ok (.iconst 3, 1) := by decide +kernel
theorem dX7_init_47 : decode cX7_init 47 = .ok (.iconst 2, 1) := by decide +kernel
theorem dX7_init_48 : decode cX7_init 48 = .ok (.iastore, 1) := by decide +kernel
theorem dX7_init_49 : decode cX7_init 49 = .ok (.dup, 1) := by decide +kernel
theorem dX7_init_50 : decode cX7_init 50 = .ok (.iconst 4, 1) := by decide +kernel
theorem dX7_init_51 : decode cX7_init 51 = .ok (.iconst 4, 1) := by decide +kernel
theorem dX7_init_52 : decode cX7_init 52 = .ok (.iastore, 1) := by decide +kernel
theorem dX7_init_53 : decode cX7_init 53 = .ok (.dup, 1) := by decide +kernel
theorem dX7_init_54 : decode cX7_init 54 = .ok (.iconst 5, 1) := by decide +kernel
theorem dX7_init_55 : decode cX7_init 55 = .ok (.iconst 4, 1) := by decide +kernel
theorem dX7_init_56 : decode cX7_init 56 = .ok (.iastore, 1) := by decide +kernel
theorem dX7_init_57 : decode cX7_init 57 = .ok (.dup, 1) := by decide +kernel
theorem dX7_init_58 : decode cX7_init 58 = .ok (.bipush 6, 2) := by decide +kernel
theorem dX7_init_60 : decode cX7_init 60 = .ok (.iconst 3, 1) := by decide +kernel
theorem dX7_init_61 : decode cX7_init 61 = .ok (.iastore, 1) := by decide +kernel
theorem dX7_init_62 : decode cX7_init 62 = .ok (.dup, 1) := by decide +kernel
theorem dX7_init_63 : decode cX7_init 63 = .ok (.bipush 7, 2) := by decide +kernel
theorem dX7_init_65 : decode cX7_init 65 = .ok (.iconst 3, 1) := by decide +kernel
theorem dX7_init_66 : decode cX7_init 66 = .ok (.iastore, 1) := by decide +kernel
theorem dX7_init_67 : decode cX7_init 67 = .ok (.dup, 1) := by decide +kernel
theorem dX7_init_68 : decode cX7_init 68 = .ok (.bipush 8, 2) := by decide +kernel
theorem dX7_init_70 : decode cX7_init 70 = .ok (.iconst 2, 1) := by decide +kernel
theorem dX7_init_71 : decode cX7_init 71 = .ok (.iastore, 1) := by decide +kernel
theorem dX7_init_72 : decode cX7_init 72 = .ok (.putfield 19, 3) := by decide +kernel
theorem dX7_init_75 : decode cX7_init 75 = .ok (.aload_n 0, 1) := by decide +kernel
theorem dX7_init_76 : decode cX7_init 76 = .ok (.sipush 511, 3) := by decide +kernel
theorem dX7_init_79 : decode cX7_init 79 = .ok (.putfield 22, 3) := by decide +kernel
theorem dX7_init_82 : decode cX7_init 82 = .ok (.aload_n 0, 1) := by decide +kernel
theorem dX7_init_83 : decode cX7_init 83 = .ok (.bipush 60, 2) := by decide +kernel
theorem dX7_init_85 : decode cX7_init 85 = .ok (.newarray .int, 2) := by decide +kernel
theorem dX7_init_87 : decode cX7_init 87 = .ok (.putfield 26, 3) := by decide +kernel
theorem dX7_init_90 : decode cX7_init 90 = .ok (.aload_n 0, 1) := by decide +kernel
theorem dX7_init_91 : decode cX7_init 91 = .ok (.bipush 60, 2) := by decide +kernel
theorem dX7_init_93 : decode cX7_init 93 = .ok (.newarray .int, 2) := by decide +kernel
theorem dX7_init_95 : decode cX7_init 95 = .ok (.putfield 29, 3) := by decide +kernel
theorem dX7_init_98 : decode cX7_init 98 = .ok (.aload_n 0, 1) := by decide +kernel
theorem dX7_init_99 : decode cX7_init 99 = .ok (.bipush 30, 2) := by decide +kernel
theorem dX7_init_101 : decode cX7_init 101 = .ok (.newarray .int, 2) := by decide +kernel
theorem dX7_init_103 : decode cX7_init 103 = .ok (.putfield 32, 3) := by decide +kernel
theorem dX7_init_106 : decode cX7_init 106 = .ok (.aload_n 0, 1) := by decide +kernel
theorem dX7_init_107 : decode cX7_init 107 = .ok (.sipush 200, 3) := by decide +kernel
theorem dX7_init_110 : decode cX7_init 110 = .ok (.newarray .int, 2) := by decide +kernel
theorem dX7_init_112 : decode cX7_init 112 = .ok (.putfield 35, 3) := by decide +kernel
theorem dX7_init_115 : decode cX7_init 115 = .ok (.aload_n 0, 1) := by decide +kernel
theorem dX7_init_116 : decode cX7_init 116 = .ok (.bipush 8, 2) := by decide +kernel
theorem dX7_init_118 : decode cX7_init 118 = .ok (.newarray .int, 2) := by decide +kernel
theorem dX7_init_120 : decode cX7_init 120 = .ok (.putfield 38, 3) := by decide +kernel
theorem dX7_init_123 : decode cX7_init 123 = .ok (.aload_n 0, 1) := by decide +kernel
theorem dX7_init_124 : decode cX7_init 124 = .ok (.bipush 8, 2) := by decide +kernel
theorem dX7_init_126 : decode cX7_init 126 = .ok (.newarray .int, 2) := by decide +kernel
theorem dX7_init_128 : decode cX7_init 128 = .ok (.putfield 41, 3) := by decide +kernel
theorem dX7_init_131 : decode cX7_init 131 = .ok (.aload_n 0, 1) := by decide +kernel
theorem dX7_init_132 : decode cX7_init 132 = .ok (.sipush 240, 3) := by decide +kernel
theorem dX7_init_135 : decode cX7_init 135 = .ok (.newarray .int, 2) := by decide +kernel
theorem dX7_init_137 : decode cX7_init 137 = .ok (.putfield 44, 3) := by decide +kernel
theorem dX7_init_140 : decode cX7_init 140 = .ok (.aload_n 0, 1) := by decide +kernel
theorem dX7_init_141 : decode cX7_init 141 = .ok (.bipush 8, 2) := by decide +kernel
theorem dX7_init_143 : decode cX7_init 143 = .ok (.newarray .int, 2) := by decide +kernel
theorem dX7_init_145 : decode cX7_init 145 = .ok (.putfield 47, 3) := by decide +kernel
theorem dX7_init_148 : decode cX7_init 148 = .ok (.aload_n 0, 1) := by decide +kernel
theorem dX7_init_149 : decode cX7_init 149 = .ok (.sipush 480, 3) := by decide +kernel
theorem dX7_init_152 : decode cX7_init 152 = .ok (.newarray .int, 2) := by decide +kernel
theorem dX7_init_154 : decode cX7_init 154 = .ok (.putfield 50, 3) := by decide +kernel
theorem dX7_init_157 : decode cX7_init 157 = .ok (.aload_n 0, 1) := by decide +kernel
theorem dX7_init_158 : decode cX7_init 158 = .ok (.sipush 480, 3) := by decide +kernel
theorem dX7_init_161 : decode cX7_init 161 = .ok (.newarray .int, 2) := by decide +kernel
theorem dX7_init_163 : decode cX7_init 163 = .ok (.putfield 53, 3) := by decide +kernel
theorem dX7_init_166 : decode cX7_init 166 = .ok (.aload_n 0, 1) := by decide +kernel
theorem dX7_init_167 : decode cX7_init 167 = .ok (.bipush 8, 2) := by decide +kernel
theorem dX7_init_169 : decode cX7_init 169 = .ok (.newarray .int, 2) := by decide +kernel
theorem dX7_init_171 : decode cX7_init 171 = .ok (.putfield 56, 3) := by decide +kernel
theorem dX7_init_174 : decode cX7_init 174 = .ok (.aload_n 0, 1) := by decide +kernel
theorem dX7_init_175 : decode cX7_init 175 = .ok (.bipush 30, 2) := by decide +kernel
theorem dX7_init_177 : decode cX7_init 177 = .ok (.newarray .int, 2) := by decide +kernel
theorem dX7_init_179 : decode cX7_init 179 = .ok (.putfield 59, 3) := by decide +kernel
theorem dX7_init_182 : decode cX7_init 182 = .ok (.aload_n 0, 1) := by decide +kernel
theorem dX7_init_183 : decode cX7_init 183 = .ok (.bipush 31, 2) := by decide +kernel
theorem dX7_init_185 : decode cX7_init 185 = .ok (.newarray .int, 2) := by decide +kernel
theorem dX7_init_187 : decode cX7_init 187 = .ok (.putfield 62, 3) := by decide +kernel
theorem dX7_init_190 : decode cX7_init 190 = .ok (.aload_n 0, 1) := by decide +kernel
theorem dX7_init_191 : decode cX7_init 191 = .ok (.bipush 31, 2) := by decide +kernel
theorem dX7_init_193 : decode cX7_init 193 = .ok (.newarray .int, 2) := by decide +kernel
theorem dX7_init_195 : decode cX7_init 195 = .ok (.putfield 65, 3) := by decide +kernel
theorem dX7_init_198 : decode cX7_init 198 = .ok (.aload_n 0, 1) := by decide +kernel
theorem dX7_init_199 : decode cX7_init 199 = .ok (.bipush 24, 2) := by decide +kernel
theorem dX7_init_201 : decode cX7_init 201 = .ok (.newarray .int, 2) := by decide +kernel
theorem dX7_init_203 : decode cX7_init 203 = .ok (.putfield 68, 3) := by decide +kernel
theorem dX7_init_206 : decode cX7_init 206 = .ok (.aload_n 0, 1) := by decide +kernel
theorem dX7_init_207 : decode cX7_init 207 = .ok (.bipush 96, 2) := by decide +kernel
theorem dX7_init_209 : decode cX7_init 209 = .ok (.newarray .int, 2) := by decide +kernel
theorem dX7_init_211 : decode cX7_init 211 = .ok (.putfield 71, 3) := by decide +kernel
theorem dX7_init_214 : decode cX7_init 214 = .ok (.aload_n 0, 1) := by decide +kernel
theorem dX7_init_215 : decode cX7_init 215 = .ok (.bipush 96, 2) := by decide +kernel
theorem dX7_init_217 : decode cX7_init 217 = .ok (.newarray .int, 2) := by decide +kernel
theorem dX7_init_219 : decode cX7_init 219 = .ok (.putfield 74, 3) := by decide +kernel
theorem dX7_init_222 : decode cX7_init 222 = .ok (.aload_n 0, 1) := by decide +kernel
theorem dX7_init_223 : decode cX7_init 223 = .ok (.bipush 96, 2) := by decide +kernel
theorem dX7_init_225 : decode cX7_init 225 = .ok (.newarray .int, 2) := by decide +kernel
theorem dX7_init_227 : decode cX7_init 227 = .ok (.putfield 77, 3) := by decide +kernel
theorem dX7_init_230 : decode cX7_init 230 = .ok (.aload_n 0, 1) := by decide +kernel
theorem dX7_init_231 : decode cX7_init 231 = .ok (.bipush 96, 2) := by decide +kernel
theorem dX7_init_233 : decode cX7_init 233 = .ok (.newarray .int, 2) := by decide +kernel
theorem dX7_init_235 : decode cX7_init 235 = .ok (.putfield 80, 3) := by decide +kernel
theorem dX7_init_238 : decode cX7_init 238 = .ok (.iconst 0, 1) := by decide +kernel
theorem dX7_init_239 : decode cX7_init 239 = .ok (.istore_n 1, 1) := by decide +kernel
theorem dX7_init_240 : decode cX7_init 240 = .ok (.iload_n 1, 1) := by decide +kernel
theorem dX7_init_241 : decode cX7_init 241 = .ok (.bipush 96, 2) := by decide +kernel
theorem dX7_init_243 : decode cX7_init 243 = .ok (.if_icmp .ge 16, 3) := by decide +kernel
theorem dX7_init_246 : decode cX7_init 246 = .ok (.aload_n 0, 1) := by decide +kernel
theorem dX7_init_247 : decode cX7_init 247 = .ok (.getfield 13, 3) := by decide +kernel
theorem dX7_init_250 : decode cX7_init 250 = .ok (.iload_n 1, 1) := by decide +kernel
theorem dX7_init_251 : decode cX7_init 251 = .ok (.iconst (-1), 1) := by decide +kernel
theorem dX7_init_252 : decode cX7_init 252 = .ok (.iastore, 1) := by decide +kernel
theorem dX7_init_253 : decode cX7_init 253 = .ok (.iinc 1 1, 3) := by decide +kernel
theorem dX7_init_256 : decode cX7_init 256 = .ok (.goto (-16), 3) := by decide +kernel
theorem dX7_init_259 : decode cX7_init 259 = .ok (.return_, 1) := by decide +kernel
theorem dX7_in_0 : decode cX7_in 0 = .ok (.iload_n 0, 1) := by decide +kernel
theorem dX7_in_1 : decode cX7_in 1 = .ok (.iload_n 1, 1) := by decide +kernel
theorem dX7_in_2 : decode cX7_in 2 = .ok (.if_icmp .lt 12, 3) := by decide +kernel
theorem dX7_in_5 : decode cX7_in 5 = .ok (.iload_n 0, 1) := by decide +kernel
theorem dX7_in_6 : decode cX7_in 6 = .ok (.iload_n 2, 1) := by decide +kernel
theorem dX7_in_7 : decode cX7_in 7 = .ok (.if_icmp .gt 7, 3) := by decide +kernel
theorem dX7_in_10 : decode cX7_in 10 = .ok (.iconst 1, 1) := by decide +kernel
theorem dX7_in_11 : decode cX7_in 11 = .ok (.goto 4, 3) := by decide +kernel
theorem dX7_in_14 : decode cX7_in 14 = .ok (.iconst 0, 1) := by decide +kernel
theorem dX7_in_15 : decode cX7_in 15 = .ok (.ireturn, 1) := by decide +kernel
theorem dX7_isKnot_0 : decode cX7_isKnot 0 = .ok (.iload_n 1, 1) := by decide +kernel
theorem dX7_isKnot_1 : decode cX7_isKnot 1 = .ok (.iconst 0, 1) := by decide +kernel
theorem dX7_isKnot_2 : decode cX7_isKnot 2 = .ok (.aload_n 0, 1) := by decide +kernel
theorem dX7_isKnot_3 : decode cX7_isKnot 3 = .ok (.getfield 83, 3) := by decide +kernel
theorem dX7_isKnot_6 : decode cX7_isKnot 6 = .ok (.iconst 1, 1) := by decide +kernel
theorem dX7_isKnot_7 : decode cX7_isKnot 7 = .ok (.isub, 1) := by decide +kernel
theorem dX7_isKnot_8 : decode cX7_isKnot 8 = .ok (.invokestatic 86, 3) := by decide +kernel
theorem dX7_isKnot_11 : decode cX7_isKnot 11 = .ok (.ireturn, 1) := by decide +kernel
theorem dX7_isExit_0 : decode cX7_isExit 0 = .ok (.aload_n 0, 1) := by decide +kernel
theorem dX7_isExit_1 : decode cX7_isExit 1 = .ok (.iload_n 1, 1) := by decide +kernel
theorem dX7_isExit_2 : decode cX7_isExit 2 = .ok (.invokevirtual 90, 3) := by decide +kernel
theorem dX7_isExit_5 : decode cX7_isExit 5 = .ok (.ifCond .eq 16, 3) := by decide +kernel
theorem dX7_isExit_8 : decode cX7_isExit 8 = .ok (.iload_n 2, 1) := by decide +kernel
theorem dX7_isExit_9 : decode cX7_isExit 9 = .ok (.iconst 0, 1) := by decide +kernel
theorem dX7_isExit_10 : decode cX7_isExit 10 = .ok (.iconst 3, 1) := by decide +kernel
theorem dX7_isExit_11 : decode cX7_isExit 11 = .ok (.invokestatic 86, 3) := by decide +kernel
theorem dX7_isExit_14 : decode cX7_isExit 14 = .ok (.ifCond .eq 7, 3) := by decide +kernel
theorem dX7_isExit_17 : decode cX7_isExit 17 = .ok (.iconst 1, 1) := by decide +kernel
theorem dX7_isExit_18 : decode cX7_isExit 18 = .ok (.goto 4, 3) := by decide +kernel
theorem dX7_isExit_21 : decode cX7_isExit 21 = .ok (.iconst 0, 1) := by decide +kernel
theorem dX7_isExit_22 : decode cX7_isExit 22 = .ok (.ireturn, 1) := by decide +kernel
theorem dX7_knot_0 : decode cX7_knot 0 = .ok (.iload_n 1, 1) := by decide +kernel
theorem dX7_knot_1 : decode cX7_knot 1 = .ok (.iconst 0, 1) := by decide +kernel
theorem dX7_knot_2 : decode cX7_knot 2 = .ok (.bipush 7, 2) := by decide +kernel
theorem dX7_knot_4 : decode cX7_knot 4 = .ok (.invokestatic 86, 3) := by decide +kernel
theorem dX7_knot_7 : decode cX7_knot 7 = .ok (.ifCond .eq 12, 3) := by decide +kernel
theorem dX7_knot_10 : decode cX7_knot 10 = .ok (.aload_n 0, 1) := by decide +kernel
theorem dX7_knot_11 : decode cX7_knot 11 = .ok (.getfield 83, 3) := by decide +kernel
theorem dX7_knot_14 : decode cX7_knot 14 = .ok (.bipush 24, 2) := by decide +kernel
theorem dX7_knot_16 : decode cX7_knot 16 = .ok (.if_icmp .ne 5, 3) := by decide +kernel
theorem dX7_knot_19 : decode cX7_knot 19 = .ok (.iconst (-1), 1) := by decide +kernel
theorem dX7_knot_20 : decode cX7_knot 20 = .ok (.ireturn, 1) := by decide +kernel
theorem dX7_knot_21 : decode cX7_knot 21 = .ok (.aload_n 0, 1) := by decide +kernel
theorem dX7_knot_22 : decode cX7_knot 22 = .ok (.getfield 9, 3) := by decide +kernel
theorem dX7_knot_25 : decode cX7_knot 25 = .ok (.aload_n 0, 1) := by decide +kernel
theorem dX7_knot_26 : decode cX7_knot 26 = .ok (.getfield 83, 3) := by decide +kernel
theorem dX7_knot_29 : decode cX7_knot 29 = .ok (.iload_n 1, 1) := by decide +kernel
theorem dX7_knot_30 : decode cX7_knot 30 = .ok (.iastore, 1) := by decide +kernel
theorem dX7_knot_31 : decode cX7_knot 31 = .ok (.aload_n 0, 1) := by decide +kernel
theorem dX7_knot_32 : decode cX7_knot 32 = .ok (.dup, 1) := by decide +kernel
theorem dX7_knot_33 : decode cX7_knot 33 = .ok (.getfield 83, 3) := by decide +kernel
theorem dX7_knot_36 : decode cX7_knot 36 = .ok (.iconst 1, 1) := by decide +kernel
theorem dX7_knot_37 : decode cX7_knot 37 = .ok (.iadd, 1) := by decide +kernel
theorem dX7_knot_38 : decode cX7_knot 38 = .ok (.putfield 83, 3) := by decide +kernel
theorem dX7_knot_41 : decode cX7_knot 41 = .ok (.aload_n 0, 1) := by decide +kernel
theorem dX7_knot_42 : decode cX7_knot 42 = .ok (.getfield 83, 3) := by decide +kernel
theorem dX7_knot_45 : decode cX7_knot 45 = .ok (.iconst 1, 1) := by decide +kernel
theorem dX7_knot_46 : decode cX7_knot 46 = .ok (.isub, 1) := by decide +kernel
theorem dX7_knot_47 : decode cX7_knot 47 = .ok (.ireturn, 1) := by decide +kernel
theorem dX7_street_0 : decode cX7_street 0 = .ok (.aload_n 0, 1) := by decide +kernel
theorem dX7_street_1 : decode cX7_street 1 = .ok (.iload_n 1, 1) := by decide +kernel
theorem dX7_street_2 : decode cX7_street 2 = .ok (.iload_n 2, 1) := by decide +kernel
theorem dX7_street_3 : decode cX7_street 3 = .ok (.invokevirtual 94, 3) := by decide +kernel
theorem dX7_street_6 : decode cX7_street 6 = .ok (.ifCond .eq 24, 3) := by decide +kernel
theorem dX7_street_9 : decode cX7_street 9 = .ok (.aload_n 0, 1) := by decide +kernel
theorem dX7_street_10 : decode cX7_street 10 = .ok (.iload_n 3, 1) := by decide +kernel
theorem dX7_street_11 : decode cX7_street 11 = .ok (.iload 4, 2) := by decide +kernel
theorem dX7_street_13 : decode cX7_street 13 = .ok (.invokevirtual 94, 3) := by decide +kernel
theorem dX7_street_16 : decode cX7_street 16 = .ok (.ifCond .eq 14, 3) := by decide +kernel
theorem dX7_street_19 : decode cX7_street 19 = .ok (.iload 5, 2) := by decide +kernel
theorem dX7_street_21 : decode cX7_street 21 = .ok (.iconst 0, 1) := by decide +kernel
theorem dX7_street_22 : decode cX7_street 22 = .ok (.bipush 9, 2) := by decide +kernel
theorem dX7_street_24 : decode cX7_street 24 = .ok (.invokestatic 86, 3) := by decide +kernel
theorem dX7_street_27 : decode cX7_street 27 = .ok (.ifCond .ne 5, 3) := by decide +kernel
theorem dX7_street_30 : decode cX7_street 30 = .ok (.iconst 0, 1) := by decide +kernel
theorem dX7_street_31 : decode cX7_street 31 = .ok (.ireturn, 1) := by decide +kernel
theorem dX7_street_32 : decode cX7_street 32 = .ok (.iconst 4, 1) := by decide +kernel
theorem dX7_street_33 : decode cX7_street 33 = .ok (.iload_n 1, 1) := by decide +kernel
theorem dX7_street_34 : decode cX7_street 34 = .ok (.imul, 1) := by decide +kernel
theorem dX7_street_35 : decode cX7_street 35 = .ok (.iload_n 2, 1) := by decide +kernel
theorem dX7_street_36 : decode cX7_street 36 = .ok (.iadd, 1) := by decide +kernel
theorem dX7_street_37 : decode cX7_street 37 = .ok (.istore 6, 2) := by decide +kernel
theorem dX7_street_39 : decode cX7_street 39 = .ok (.iconst 4, 1) := by decide +kernel
theorem dX7_street_40 : decode cX7_street 40 = .ok (.iload_n 3, 1) := by decide +kernel
theorem dX7_street_41 : decode cX7_street 41 = .ok (.imul, 1) := by decide +kernel
theorem dX7_street_42 : decode cX7_street 42 = .ok (.iload 4, 2) := by decide +kernel
theorem dX7_street_44 : decode cX7_street 44 = .ok (.iadd, 1) := by decide +kernel
theorem dX7_street_45 : decode cX7_street 45 = .ok (.istore 7, 2) := by decide +kernel
theorem dX7_street_47 : decode cX7_street 47 = .ok (.iload 6, 2) := by decide +kernel
theorem dX7_street_49 : decode cX7_street 49 = .ok (.iload 7, 2) := by decide +kernel
theorem dX7_street_51 : decode cX7_street 51 = .ok (.if_icmp .eq 25, 3) := by decide +kernel
theorem dX7_street_54 : decode cX7_street 54 = .ok (.aload_n 0, 1) := by decide +kernel
theorem dX7_street_55 : decode cX7_street 55 = .ok (.getfield 13, 3) := by decide +kernel
theorem dX7_street_58 : decode cX7_street 58 = .ok (.iload 6, 2) := by decide +kernel
theorem dX7_street_60 : decode cX7_street 60 = .ok (.iaload, 1) := by decide +kernel
theorem dX7_street_61 : decode cX7_street 61 = .ok (.iconst (-1), 1) := by decide +kernel
theorem dX7_street_62 : decode cX7_street 62 = .ok (.if_icmp .ne 14, 3) := by decide +kernel
theorem dX7_street_65 : decode cX7_street 65 = .ok (.aload_n 0, 1) := by decide +kernel
theorem dX7_street_66 : decode cX7_street 66 = .ok (.getfield 13, 3) := by decide +kernel
theorem dX7_street_69 : decode cX7_street 69 = .ok (.iload 7, 2) := by decide +kernel
theorem dX7_street_71 : decode cX7_street 71 = .ok (.iaload, 1) := by decide +kernel
theorem dX7_street_72 : decode cX7_street 72 = .ok (.iconst (-1), 1) := by decide +kernel
theorem dX7_street_73 : decode cX7_street 73 = .ok (.if_icmp .eq 5, 3) := by decide +kernel
theorem dX7_street_76 : decode cX7_street 76 = .ok (.iconst 0, 1) := by decide +kernel
theorem dX7_street_77 : decode cX7_street 77 = .ok (.ireturn, 1) := by decide +kernel
theorem dX7_street_78 : decode cX7_street 78 = .ok (.aload_n 0, 1) := by decide +kernel
theorem dX7_street_79 : decode cX7_street 79 = .ok (.getfield 13, 3) := by decide +kernel
theorem dX7_street_82 : decode cX7_street 82 = .ok (.iload 6, 2) := by decide +kernel
theorem dX7_street_84 : decode cX7_street 84 = .ok (.iload 7, 2) := by decide +kernel
theorem dX7_street_86 : decode cX7_street 86 = .ok (.iastore, 1) := by decide +kernel
theorem dX7_street_87 : decode cX7_street 87 = .ok (.aload_n 0, 1) := by decide +kernel
theorem dX7_street_88 : decode cX7_street 88 = .ok (.getfield 13, 3) := by decide +kernel
theorem dX7_street_91 : decode cX7_street 91 = .ok (.iload 7, 2) := by decide +kernel
theorem dX7_street_93 : decode cX7_street 93 = .ok (.iload 6, 2) := by decide +kernel
theorem dX7_street_95 : decode cX7_street 95 = .ok (.iastore, 1) := by decide +kernel
theorem dX7_street_96 : decode cX7_street 96 = .ok (.aload_n 0, 1) := by decide +kernel
theorem dX7_street_97 : decode cX7_street 97 = .ok (.getfield 16, 3) := by decide +kernel
theorem dX7_street_100 : decode cX7_street 100 = .ok (.iload 6, 2) := by decide +kernel
theorem dX7_street_102 : decode cX7_street 102 = .ok (.iload 5, 2) := by decide +kernel
theorem dX7_street_104 : decode cX7_street 104 = .ok (.iastore, 1) := by decide +kernel
theorem dX7_street_105 : decode cX7_street 105 = .ok (.aload_n 0, 1) := by decide +kernel
theorem dX7_street_106 : decode cX7_street 106 = .ok (.getfield 16, 3) := by decide +kernel
theorem dX7_street_109 : decode cX7_street 109 = .ok (.iload 7, 2) := by decide +kernel
theorem dX7_street_111 : decode cX7_street 111 = .ok (.iload 5, 2) := by decide +kernel
theorem dX7_street_113 : decode cX7_street 113 = .ok (.iastore, 1) := by decide +kernel
theorem dX7_street_114 : decode cX7_street 114 = .ok (.iconst 1, 1) := by decide +kernel
theorem dX7_street_115 : decode cX7_street 115 = .ok (.ireturn, 1) := by decide +kernel
theorem dX7_goesBy_0 : decode cX7_goesBy 0 = .ok (.aload_n 0, 1) := by decide +kernel
theorem dX7_goesBy_1 : decode cX7_goesBy 1 = .ok (.getfield 98, 3) := by decide +kernel
theorem dX7_goesBy_4 : decode cX7_goesBy 4 = .ok (.istore_n 2, 1) := by decide +kernel
theorem dX7_goesBy_5 : decode cX7_goesBy 5 = .ok (.iconst 0, 1) := by decide +kernel
theorem dX7_goesBy_6 : decode cX7_goesBy 6 = .ok (.istore_n 3, 1) := by decide +kernel
theorem dX7_goesBy_7 : decode cX7_goesBy 7 = .ok (.iload_n 3, 1) := by decide +kernel
theorem dX7_goesBy_8 : decode cX7_goesBy 8 = .ok (.aload_n 0, 1) := by decide +kernel
theorem dX7_goesBy_9 : decode cX7_goesBy 9 = .ok (.getfield 101, 3) := by decide +kernel
theorem dX7_goesBy_12 : decode cX7_goesBy 12 = .ok (.if_icmp .ge 50, 3) := by decide +kernel
theorem dX7_goesBy_15 : decode cX7_goesBy 15 = .ok (.iconst 4, 1) := by decide +kernel
theorem dX7_goesBy_16 : decode cX7_goesBy 16 = .ok (.iload_n 2, 1) := by decide +kernel
theorem dX7_goesBy_17 : decode cX7_goesBy 17 = .ok (.imul, 1) := by decide +kernel
theorem dX7_goesBy_18 : decode cX7_goesBy 18 = .ok (.aload_n 0, 1) := by decide +kernel
theorem dX7_goesBy_19 : decode cX7_goesBy 19 = .ok (.getfield 32, 3) := by decide +kernel
theorem dX7_goesBy_22 : decode cX7_goesBy 22 = .ok (.iload_n 3, 1) := by decide +kernel
theorem dX7_goesBy_23 : decode cX7_goesBy 23 = .ok (.iaload, 1) := by decide +kernel
theorem dX7_goesBy_24 : decode cX7_goesBy 24 = .ok (.iadd, 1) := by decide +kernel
theorem dX7_goesBy_25 : decode cX7_goesBy 25 = .ok (.istore 4, 2) := by decide +kernel
theorem dX7_goesBy_27 : decode cX7_goesBy 27 = .ok (.iload 4, 2) := by decide +kernel
theorem dX7_goesBy_29 : decode cX7_goesBy 29 = .ok (.iload_n 1, 1) := by decide +kernel
theorem dX7_goesBy_30 : decode cX7_goesBy 30 = .ok (.if_icmp .eq 14, 3) := by decide +kernel
theorem dX7_goesBy_33 : decode cX7_goesBy 33 = .ok (.aload_n 0, 1) := by decide +kernel
theorem dX7_goesBy_34 : decode cX7_goesBy 34 = .ok (.getfield 13, 3) := by decide +kernel
theorem dX7_goesBy_37 : decode cX7_goesBy 37 = .ok (.iload 4, 2) := by decide +kernel
theorem dX7_goesBy_39 : decode cX7_goesBy 39 = .ok (.iaload, 1) := by decide +kernel
theorem dX7_goesBy_40 : decode cX7_goesBy 40 = .ok (.iload_n 1, 1) := by decide +kernel
theorem dX7_goesBy_41 : decode cX7_goesBy 41 = .ok (.if_icmp .ne 5, 3) := by decide +kernel
theorem dX7_goesBy_44 : decode cX7_goesBy 44 = .ok (.iconst 1, 1) := by decide +kernel
theorem dX7_goesBy_45 : decode cX7_goesBy 45 = .ok (.ireturn, 1) := by decide +kernel
theorem dX7_goesBy_46 : decode cX7_goesBy 46 = .ok (.aload_n 0, 1) := by decide +kernel
theorem dX7_goesBy_47 : decode cX7_goesBy 47 = .ok (.getfield 13, 3) := by decide +kernel
theorem dX7_goesBy_50 : decode cX7_goesBy 50 = .ok (.iload 4, 2) := by decide +kernel
theorem dX7_goesBy_52 : decode cX7_goesBy 52 = .ok (.iaload, 1) := by decide +kernel
theorem dX7_goesBy_53 : decode cX7_goesBy 53 = .ok (.iconst 4, 1) := by decide +kernel
theorem dX7_goesBy_54 : decode cX7_goesBy 54 = .ok (.idiv, 1) := by decide +kernel
theorem dX7_goesBy_55 : decode cX7_goesBy 55 = .ok (.istore_n 2, 1) := by decide +kernel
theorem dX7_goesBy_56 : decode cX7_goesBy 56 = .ok (.iinc 3 1, 3) := by decide +kernel
theorem dX7_goesBy_59 : decode cX7_goesBy 59 = .ok (.goto (-52), 3) := by decide +kernel
theorem dX7_goesBy_62 : decode cX7_goesBy 62 = .ok (.iconst 0, 1) := by decide +kernel
theorem dX7_goesBy_63 : decode cX7_goesBy 63 = .ok (.ireturn, 1) := by decide +kernel
theorem dX7_close_0 : decode cX7_close 0 = .ok (.aload_n 0, 1) := by decide +kernel
theorem dX7_close_1 : decode cX7_close 1 = .ok (.iload_n 1, 1) := by decide +kernel
theorem dX7_close_2 : decode cX7_close 2 = .ok (.iload_n 2, 1) := by decide +kernel
theorem dX7_close_3 : decode cX7_close 3 = .ok (.invokevirtual 94, 3) := by decide +kernel
theorem dX7_close_6 : decode cX7_close 6 = .ok (.ifCond .eq 17, 3) := by decide +kernel
theorem dX7_close_9 : decode cX7_close 9 = .ok (.aload_n 0, 1) := by decide +kernel
theorem dX7_close_10 : decode cX7_close 10 = .ok (.getfield 13, 3) := by decide +kernel
theorem dX7_close_13 : decode cX7_close 13 = .ok (.iconst 4, 1) := by decide +kernel
theorem dX7_close_14 : decode cX7_close 14 = .ok (.iload_n 1, 1) := by decide +kernel
theorem dX7_close_15 : decode cX7_close 15 = .ok (.imul, 1) := by decide +kernel
theorem dX7_close_16 : decode cX7_close 16 = .ok (.iload_n 2, 1) := by decide +kernel
theorem dX7_close_17 : decode cX7_close 17 = .ok (.iadd, 1) := by decide +kernel
theorem dX7_close_18 : decode cX7_close 18 = .ok (.iaload, 1) := by decide +kernel
theorem dX7_close_19 : decode cX7_close 19 = .ok (.iconst (-1), 1) := by decide +kernel
theorem dX7_close_20 : decode cX7_close 20 = .ok (.if_icmp .ne 5, 3) := by decide +kernel
theorem dX7_close_23 : decode cX7_close 23 = .ok (.iconst 0, 1) := by decide +kernel
theorem dX7_close_24 : decode cX7_close 24 = .ok (.ireturn, 1) := by decide +kernel
theorem dX7_close_25 : decode cX7_close 25 = .ok (.iconst 4, 1) := by decide +kernel
theorem dX7_close_26 : decode cX7_close 26 = .ok (.iload_n 1, 1) := by decide +kernel
theorem dX7_close_27 : decode cX7_close 27 = .ok (.imul, 1) := by decide +kernel
theorem dX7_close_28 : decode cX7_close 28 = .ok (.iload_n 2, 1) := by decide +kernel
theorem dX7_close_29 : decode cX7_close 29 = .ok (.iadd, 1) := by decide +kernel
theorem dX7_close_30 : decode cX7_close 30 = .ok (.istore_n 3, 1) := by decide +kernel
theorem dX7_close_31 : decode cX7_close 31 = .ok (.aload_n 0, 1) := by decide +kernel
theorem dX7_close_32 : decode cX7_close 32 = .ok (.getfield 104, 3) := by decide +kernel
theorem dX7_close_35 : decode cX7_close 35 = .ok (.ifCond .eq 16, 3) := by decide +kernel
theorem dX7_close_38 : decode cX7_close 38 = .ok (.aload_n 0, 1) := by decide +kernel
theorem dX7_close_39 : decode cX7_close 39 = .ok (.iload_n 3, 1) := by decide +kernel
theorem dX7_close_40 : decode cX7_close 40 = .ok (.invokevirtual 108, 3) := by decide +kernel
theorem dX7_close_43 : decode cX7_close 43 = .ok (.ifCond .eq 8, 3) := by decide +kernel
theorem dX7_close_46 : decode cX7_close 46 = .ok (.aload_n 0, 1) := by decide +kernel
theorem dX7_close_47 : decode cX7_close 47 = .ok (.iconst 0, 1) := by decide +kernel
theorem dX7_close_48 : decode cX7_close 48 = .ok (.putfield 104, 3) := by decide +kernel
theorem dX7_close_51 : decode cX7_close 51 = .ok (.aload_n 0, 1) := by decide +kernel
theorem dX7_close_52 : decode cX7_close 52 = .ok (.getfield 13, 3) := by decide +kernel
theorem dX7_close_55 : decode cX7_close 55 = .ok (.aload_n 0, 1) := by decide +kernel
theorem dX7_close_56 : decode cX7_close 56 = .ok (.getfield 13, 3) := by decide +kernel
theorem dX7_close_59 : decode cX7_close 59 = .ok (.iload_n 3, 1) := by decide +kernel
theorem dX7_close_60 : decode cX7_close 60 = .ok (.iaload, 1) := by decide +kernel
theorem dX7_close_61 : decode cX7_close 61 = .ok (.iconst (-1), 1) := by decide +kernel
theorem dX7_close_62 : decode cX7_close 62 = .ok (.iastore, 1) := by decide +kernel
theorem dX7_close_63 : decode cX7_close 63 = .ok (.aload_n 0, 1) := by decide +kernel
theorem dX7_close_64 : decode cX7_close 64 = .ok (.getfield 13, 3) := by decide +kernel
theorem dX7_close_67 : decode cX7_close 67 = .ok (.iload_n 3, 1) := by decide +kernel
theorem dX7_close_68 : decode cX7_close 68 = .ok (.iconst (-1), 1) := by decide +kernel
theorem dX7_close_69 : decode cX7_close 69 = .ok (.iastore, 1) := by decide +kernel
theorem dX7_close_70 : decode cX7_close 70 = .ok (.iconst 1, 1) := by decide +kernel
theorem dX7_close_71 : decode cX7_close 71 = .ok (.ireturn, 1) := by decide +kernel
theorem dX7_sight_0 : decode cX7_sight 0 = .ok (.aload_n 0, 1) := by decide +kernel
theorem dX7_sight_1 : decode cX7_sight 1 = .ok (.iload_n 1, 1) := by decide +kernel
theorem dX7_sight_2 : decode cX7_sight 2 = .ok (.invokevirtual 90, 3) := by decide +kernel
theorem dX7_sight_5 : decode cX7_sight 5 = .ok (.ifCond .eq 13, 3) := by decide +kernel
theorem dX7_sight_8 : decode cX7_sight 8 = .ok (.iload_n 2, 1) := by decide +kernel
theorem dX7_sight_9 : decode cX7_sight 9 = .ok (.iconst 0, 1) := by decide +kernel
theorem dX7_sight_10 : decode cX7_sight 10 = .ok (.bipush 7, 2) := by decide +kernel
theorem dX7_sight_12 : decode cX7_sight 12 = .ok (.invokestatic 86, 3) := by decide +kernel
theorem dX7_sight_15 : decode cX7_sight 15 = .ok (.ifCond .ne 5, 3) := by decide +kernel
theorem dX7_sight_18 : decode cX7_sight 18 = .ok (.iconst 0, 1) := by decide +kernel
theorem dX7_sight_19 : decode cX7_sight 19 = .ok (.ireturn, 1) := by decide +kernel
theorem dX7_sight_20 : decode cX7_sight 20 = .ok (.aload_n 0, 1) := by decide +kernel
theorem dX7_sight_21 : decode cX7_sight 21 = .ok (.getfield 9, 3) := by decide +kernel
theorem dX7_sight_24 : decode cX7_sight 24 = .ok (.iload_n 1, 1) := by decide +kernel
theorem dX7_sight_25 : decode cX7_sight 25 = .ok (.iload_n 2, 1) := by decide +kernel
theorem dX7_sight_26 : decode cX7_sight 26 = .ok (.iastore, 1) := by decide +kernel
theorem dX7_sight_27 : decode cX7_sight 27 = .ok (.iconst 1, 1) := by decide +kernel
theorem dX7_sight_28 : decode cX7_sight 28 = .ok (.ireturn, 1) := by decide +kernel
theorem dX7_look_0 : decode cX7_look 0 = .ok (.aload_n 0, 1) := by decide +kernel
theorem dX7_look_1 : decode cX7_look 1 = .ok (.iload_n 1, 1) := by decide +kernel
theorem dX7_look_2 : decode cX7_look 2 = .ok (.invokevirtual 90, 3) := by decide +kernel
theorem dX7_look_5 : decode cX7_look 5 = .ok (.ifCond .ne 5, 3) := by decide +kernel
theorem dX7_look_8 : decode cX7_look 8 = .ok (.iconst (-1), 1) := by decide +kernel
theorem dX7_look_9 : decode cX7_look 9 = .ok (.ireturn, 1) := by decide +kernel
theorem dX7_look_10 : decode cX7_look 10 = .ok (.iload_n 3, 1) := by decide +kernel
theorem dX7_look_11 : decode cX7_look 11 = .ok (.iconst 3, 1) := by decide +kernel
theorem dX7_look_12 : decode cX7_look 12 = .ok (.if_icmp .ne 10, 3) := by decide +kernel
theorem dX7_look_15 : decode cX7_look 15 = .ok (.aload_n 0, 1) := by decide +kernel
theorem dX7_look_16 : decode cX7_look 16 = .ok (.getfield 9, 3) := by decide +kernel
theorem dX7_look_19 : decode cX7_look 19 = .ok (.iload_n 1, 1) := by decide +kernel
theorem dX7_look_20 : decode cX7_look 20 = .ok (.iaload, 1) := by decide +kernel
theorem dX7_look_21 : decode cX7_look 21 = .ok (.ireturn, 1) := by decide +kernel
theorem dX7_look_22 : decode cX7_look 22 = .ok (.iload_n 2, 1) := by decide +kernel
theorem dX7_look_23 : decode cX7_look 23 = .ok (.iconst 0, 1) := by decide +kernel
theorem dX7_look_24 : decode cX7_look 24 = .ok (.iconst 3, 1) := by decide +kernel
theorem dX7_look_25 : decode cX7_look 25 = .ok (.invokestatic 86, 3) := by decide +kernel
theorem dX7_look_28 : decode cX7_look 28 = .ok (.ifCond .eq 17, 3) := by decide +kernel
theorem dX7_look_31 : decode cX7_look 31 = .ok (.aload_n 0, 1) := by decide +kernel
theorem dX7_look_32 : decode cX7_look 32 = .ok (.getfield 13, 3) := by decide +kernel
theorem dX7_look_35 : decode cX7_look 35 = .ok (.iconst 4, 1) := by decide +kernel
theorem dX7_look_36 : decode cX7_look 36 = .ok (.iload_n 1, 1) := by decide +kernel
theorem dX7_look_37 : decode cX7_look 37 = .ok (.imul, 1) := by decide +kernel
theorem dX7_look_38 : decode cX7_look 38 = .ok (.iload_n 2, 1) := by decide +kernel
theorem dX7_look_39 : decode cX7_look 39 = .ok (.iadd, 1) := by decide +kernel
theorem dX7_look_40 : decode cX7_look 40 = .ok (.iaload, 1) := by decide +kernel
theorem dX7_look_41 : decode cX7_look 41 = .ok (.iconst (-1), 1) := by decide +kernel
theorem dX7_look_42 : decode cX7_look 42 = .ok (.if_icmp .ne 5, 3) := by decide +kernel
theorem dX7_look_45 : decode cX7_look 45 = .ok (.iconst (-1), 1) := by decide +kernel
theorem dX7_look_46 : decode cX7_look 46 = .ok (.ireturn, 1) := by decide +kernel
theorem dX7_look_47 : decode cX7_look 47 = .ok (.iconst 4, 1) := by decide +kernel
theorem dX7_look_48 : decode cX7_look 48 = .ok (.iload_n 1, 1) := by decide +kernel
theorem dX7_look_49 : decode cX7_look 49 = .ok (.imul, 1) := by decide +kernel
theorem dX7_look_50 : decode cX7_look 50 = .ok (.iload_n 2, 1) := by decide +kernel
theorem dX7_look_51 : decode cX7_look 51 = .ok (.iadd, 1) := by decide +kernel
theorem dX7_look_52 : decode cX7_look 52 = .ok (.istore 4, 2) := by decide +kernel
theorem dX7_look_54 : decode cX7_look 54 = .ok (.iload_n 3, 1) := by decide +kernel
theorem dX7_look_55 : decode cX7_look 55 = .ok (.ifCond .ne 15, 3) := by decide +kernel
theorem dX7_look_58 : decode cX7_look 58 = .ok (.aload_n 0, 1) := by decide +kernel
theorem dX7_look_59 : decode cX7_look 59 = .ok (.getfield 13, 3) := by decide +kernel
theorem dX7_look_62 : decode cX7_look 62 = .ok (.iload 4, 2) := by decide +kernel
theorem dX7_look_64 : decode cX7_look 64 = .ok (.iaload, 1) := by decide +kernel
theorem dX7_look_65 : decode cX7_look 65 = .ok (.iconst 4, 1) := by decide +kernel
theorem dX7_look_66 : decode cX7_look 66 = .ok (.idiv, 1) := by decide +kernel
theorem dX7_look_67 : decode cX7_look 67 = .ok (.goto 38, 3) := by decide +kernel
theorem dX7_look_70 : decode cX7_look 70 = .ok (.iload_n 3, 1) := by decide +kernel
theorem dX7_look_71 : decode cX7_look 71 = .ok (.iconst 1, 1) := by decide +kernel
theorem dX7_look_72 : decode cX7_look 72 = .ok (.if_icmp .ne 17, 3) := by decide +kernel
theorem dX7_look_75 : decode cX7_look 75 = .ok (.aload_n 0, 1) := by decide +kernel
theorem dX7_look_76 : decode cX7_look 76 = .ok (.getfield 13, 3) := by decide +kernel
theorem dX7_look_79 : decode cX7_look 79 = .ok (.iload 4, 2) := by decide +kernel
theorem dX7_look_81 : decode cX7_look 81 = .ok (.iaload, 1) := by decide +kernel
theorem dX7_look_82 : decode cX7_look 82 = .ok (.iconst 2, 1) := by decide +kernel
theorem dX7_look_83 : decode cX7_look 83 = .ok (.iadd, 1) := by decide +kernel
theorem dX7_look_84 : decode cX7_look 84 = .ok (.iconst 4, 1) := by decide +kernel
theorem dX7_look_85 : decode cX7_look 85 = .ok (.irem, 1) := by decide +kernel
theorem dX7_look_86 : decode cX7_look 86 = .ok (.goto 19, 3) := by decide +kernel
theorem dX7_look_89 : decode cX7_look 89 = .ok (.iload_n 3, 1) := by decide +kernel
theorem dX7_look_90 : decode cX7_look 90 = .ok (.iconst 2, 1) := by decide +kernel
theorem dX7_look_91 : decode cX7_look 91 = .ok (.if_icmp .ne 13, 3) := by decide +kernel
theorem dX7_look_94 : decode cX7_look 94 = .ok (.aload_n 0, 1) := by decide +kernel
theorem dX7_look_95 : decode cX7_look 95 = .ok (.getfield 16, 3) := by decide +kernel
theorem dX7_look_98 : decode cX7_look 98 = .ok (.iload 4, 2) := by decide +kernel
theorem dX7_look_100 : decode cX7_look 100 = .ok (.iaload, 1) := by decide +kernel
theorem dX7_look_101 : decode cX7_look 101 = .ok (.goto 4, 3) := by decide +kernel
theorem dX7_look_104 : decode cX7_look 104 = .ok (.iconst (-1), 1) := by decide +kernel
theorem dX7_look_105 : decode cX7_look 105 = .ok (.ireturn, 1) := by decide +kernel
theorem dX7_price_0 : decode cX7_price 0 = .ok (.iload_n 1, 1) := by decide +kernel
theorem dX7_price_1 : decode cX7_price 1 = .ok (.iconst 0, 1) := by decide +kernel
theorem dX7_price_2 : decode cX7_price 2 = .ok (.bipush 8, 2) := by decide +kernel
theorem dX7_price_4 : decode cX7_price 4 = .ok (.invokestatic 86, 3) := by decide +kernel
theorem dX7_price_7 : decode cX7_price 7 = .ok (.ifCond .eq 13, 3) := by decide +kernel
theorem dX7_price_10 : decode cX7_price 10 = .ok (.iload_n 2, 1) := by decide +kernel
theorem dX7_price_11 : decode cX7_price 11 = .ok (.iconst 0, 1) := by decide +kernel
theorem dX7_price_12 : decode cX7_price 12 = .ok (.bipush 50, 2) := by decide +kernel
theorem dX7_price_14 : decode cX7_price 14 = .ok (.invokestatic 86, 3) := by decide +kernel
theorem dX7_price_17 : decode cX7_price 17 = .ok (.ifCond .ne 5, 3) := by decide +kernel
theorem dX7_price_20 : decode cX7_price 20 = .ok (.iconst (-1), 1) := by decide +kernel
theorem dX7_price_21 : decode cX7_price 21 = .ok (.ireturn, 1) := by decide +kernel
theorem dX7_price_22 : decode cX7_price 22 = .ok (.aload_n 0, 1) := by decide +kernel
theorem dX7_price_23 : decode cX7_price 23 = .ok (.getfield 19, 3) := by decide +kernel
theorem dX7_price_26 : decode cX7_price 26 = .ok (.iload_n 1, 1) := by decide +kernel
theorem dX7_price_27 : decode cX7_price 27 = .ok (.iaload, 1) := by decide +kernel
theorem dX7_price_28 : decode cX7_price 28 = .ok (.istore_n 3, 1) := by decide +kernel
theorem dX7_price_29 : decode cX7_price 29 = .ok (.aload_n 0, 1) := by decide +kernel
theorem dX7_price_30 : decode cX7_price 30 = .ok (.getfield 19, 3) := by decide +kernel
theorem dX7_price_33 : decode cX7_price 33 = .ok (.iload_n 1, 1) := by decide +kernel
theorem dX7_price_34 : decode cX7_price 34 = .ok (.iload_n 2, 1) := by decide +kernel
theorem dX7_price_35 : decode cX7_price 35 = .ok (.iastore, 1) := by decide +kernel
theorem dX7_price_36 : decode cX7_price 36 = .ok (.iload_n 3, 1) := by decide +kernel
theorem dX7_price_37 : decode cX7_price 37 = .ok (.ireturn, 1) := by decide +kernel
theorem dX7_allow_0 : decode cX7_allow 0 = .ok (.iload_n 1, 1) := by decide +kernel
theorem dX7_allow_1 : decode cX7_allow 1 = .ok (.iconst 0, 1) := by decide +kernel
theorem dX7_allow_2 : decode cX7_allow 2 = .ok (.sipush 511, 3) := by decide +kernel
theorem dX7_allow_5 : decode cX7_allow 5 = .ok (.invokestatic 86, 3) := by decide +kernel
theorem dX7_allow_8 : decode cX7_allow 8 = .ok (.ifCond .ne 5, 3) := by decide +kernel
theorem dX7_allow_11 : decode cX7_allow 11 = .ok (.iconst (-1), 1) := by decide +kernel
theorem dX7_allow_12 : decode cX7_allow 12 = .ok (.ireturn, 1) := by decide +kernel
theorem dX7_allow_13 : decode cX7_allow 13 = .ok (.aload_n 0, 1) := by decide +kernel
theorem dX7_allow_14 : decode cX7_allow 14 = .ok (.getfield 22, 3) := by decide +kernel
theorem dX7_allow_17 : decode cX7_allow 17 = .ok (.istore_n 2, 1) := by decide +kernel
theorem dX7_allow_18 : decode cX7_allow 18 = .ok (.aload_n 0, 1) := by decide +kernel
theorem dX7_allow_19 : decode cX7_allow 19 = .ok (.iload_n 1, 1) := by decide +kernel
theorem dX7_allow_20 : decode cX7_allow 20 = .ok (.putfield 22, 3) := by decide +kernel
theorem dX7_allow_23 : decode cX7_allow 23 = .ok (.iload_n 2, 1) := by decide +kernel
theorem dX7_allow_24 : decode cX7_allow 24 = .ok (.ireturn, 1) := by decide +kernel
theorem dX7_mostOf_0 : decode cX7_mostOf 0 = .ok (.iload_n 0, 1) := by decide +kernel
theorem dX7_mostOf_1 : decode cX7_mostOf 1 = .ok (.iconst 4, 1) := by decide +kernel
theorem dX7_mostOf_2 : decode cX7_mostOf 2 = .ok (.if_icmp .eq 8, 3) := by decide +kernel
theorem dX7_mostOf_5 : decode cX7_mostOf 5 = .ok (.iload_n 0, 1) := by decide +kernel
theorem dX7_mostOf_6 : decode cX7_mostOf 6 = .ok (.iconst 5, 1) := by decide +kernel
theorem dX7_mostOf_7 : decode cX7_mostOf 7 = .ok (.if_icmp .ne 7, 3) := by decide +kernel
theorem dX7_mostOf_10 : decode cX7_mostOf 10 = .ok (.iconst 4, 1) := by decide +kernel
theorem dX7_mostOf_11 : decode cX7_mostOf 11 = .ok (.goto 26, 3) := by decide +kernel
theorem dX7_mostOf_14 : decode cX7_mostOf 14 = .ok (.iload_n 0, 1) := by decide +kernel
theorem dX7_mostOf_15 : decode cX7_mostOf 15 = .ok (.bipush 6, 2) := by decide +kernel
theorem dX7_mostOf_17 : decode cX7_mostOf 17 = .ok (.if_icmp .ne 8, 3) := by decide +kernel
theorem dX7_mostOf_20 : decode cX7_mostOf 20 = .ok (.bipush 7, 2) := by decide +kernel
theorem dX7_mostOf_22 : decode cX7_mostOf 22 = .ok (.goto 15, 3) := by decide +kernel
theorem dX7_mostOf_25 : decode cX7_mostOf 25 = .ok (.iload_n 0, 1) := by decide +kernel
theorem dX7_mostOf_26 : decode cX7_mostOf 26 = .ok (.bipush 7, 2) := by decide +kernel
theorem dX7_mostOf_28 : decode cX7_mostOf 28 = .ok (.if_icmp .ne 8, 3) := by decide +kernel
theorem dX7_mostOf_31 : decode cX7_mostOf 31 = .ok (.bipush 9, 2) := by decide +kernel
theorem dX7_mostOf_33 : decode cX7_mostOf 33 = .ok (.goto 4, 3) := by decide +kernel
theorem dX7_mostOf_36 : decode cX7_mostOf 36 = .ok (.iconst 0, 1) := by decide +kernel
theorem dX7_mostOf_37 : decode cX7_mostOf 37 = .ok (.ireturn, 1) := by decide +kernel
theorem dX7_isSaying_0 : decode cX7_isSaying 0 = .ok (.iload_n 0, 1) := by decide +kernel
theorem dX7_isSaying_1 : decode cX7_isSaying 1 = .ok (.iconst 0, 1) := by decide +kernel
theorem dX7_isSaying_2 : decode cX7_isSaying 2 = .ok (.bipush 8, 2) := by decide +kernel
theorem dX7_isSaying_4 : decode cX7_isSaying 4 = .ok (.invokestatic 86, 3) := by decide +kernel
theorem dX7_isSaying_7 : decode cX7_isSaying 7 = .ok (.ifCond .eq 30, 3) := by decide +kernel
theorem dX7_isSaying_10 : decode cX7_isSaying 10 = .ok (.iload_n 1, 1) := by decide +kernel
theorem dX7_isSaying_11 : decode cX7_isSaying 11 = .ok (.iload_n 0, 1) := by decide +kernel
theorem dX7_isSaying_12 : decode cX7_isSaying 12 = .ok (.invokestatic 111, 3) := by decide +kernel
theorem dX7_isSaying_15 : decode cX7_isSaying 15 = .ok (.ifCond .le 7, 3) := by decide +kernel
theorem dX7_isSaying_18 : decode cX7_isSaying 18 = .ok (.iconst 1, 1) := by decide +kernel
theorem dX7_isSaying_19 : decode cX7_isSaying 19 = .ok (.goto 4, 3) := by decide +kernel
theorem dX7_isSaying_22 : decode cX7_isSaying 22 = .ok (.iconst 0, 1) := by decide +kernel
theorem dX7_isSaying_23 : decode cX7_isSaying 23 = .ok (.iload_n 0, 1) := by decide +kernel
theorem dX7_isSaying_24 : decode cX7_isSaying 24 = .ok (.invokestatic 111, 3) := by decide +kernel
theorem dX7_isSaying_27 : decode cX7_isSaying 27 = .ok (.invokestatic 86, 3) := by decide +kernel
theorem dX7_isSaying_30 : decode cX7_isSaying 30 = .ok (.ifCond .eq 7, 3) := by decide +kernel
theorem dX7_isSaying_33 : decode cX7_isSaying 33 = .ok (.iconst 1, 1) := by decide +kernel
theorem dX7_isSaying_34 : decode cX7_isSaying 34 = .ok (.goto 4, 3) := by decide +kernel
theorem dX7_isSaying_37 : decode cX7_isSaying 37 = .ok (.iconst 0, 1) := by decide +kernel
theorem dX7_isSaying_38 : decode cX7_isSaying 38 = .ok (.ireturn, 1) := by decide +kernel
theorem dX7_goBy_0 : decode cX7_goBy 0 = .ok (.aload_n 0, 1) := by decide +kernel
theorem dX7_goBy_1 : decode cX7_goBy 1 = .ok (.getfield 13, 3) := by decide +kernel
theorem dX7_goBy_4 : decode cX7_goBy 4 = .ok (.iconst 4, 1) := by decide +kernel
theorem dX7_goBy_5 : decode cX7_goBy 5 = .ok (.aload_n 0, 1) := by decide +kernel
theorem dX7_goBy_6 : decode cX7_goBy 6 = .ok (.getfield 115, 3) := by decide +kernel
theorem dX7_goBy_9 : decode cX7_goBy 9 = .ok (.imul, 1) := by decide +kernel
theorem dX7_goBy_10 : decode cX7_goBy 10 = .ok (.iload_n 1, 1) := by decide +kernel
theorem dX7_goBy_11 : decode cX7_goBy 11 = .ok (.iadd, 1) := by decide +kernel
theorem dX7_goBy_12 : decode cX7_goBy 12 = .ok (.iaload, 1) := by decide +kernel
theorem dX7_goBy_13 : decode cX7_goBy 13 = .ok (.istore_n 2, 1) := by decide +kernel
theorem dX7_goBy_14 : decode cX7_goBy 14 = .ok (.iload_n 2, 1) := by decide +kernel
theorem dX7_goBy_15 : decode cX7_goBy 15 = .ok (.iconst (-1), 1) := by decide +kernel
theorem dX7_goBy_16 : decode cX7_goBy 16 = .ok (.if_icmp .eq 12, 3) := by decide +kernel
theorem dX7_goBy_19 : decode cX7_goBy 19 = .ok (.aload_n 0, 1) := by decide +kernel
theorem dX7_goBy_20 : decode cX7_goBy 20 = .ok (.getfield 118, 3) := by decide +kernel
theorem dX7_goBy_23 : decode cX7_goBy 23 = .ok (.bipush 30, 2) := by decide +kernel
theorem dX7_goBy_25 : decode cX7_goBy 25 = .ok (.if_icmp .ne 5, 3) := by decide +kernel
theorem dX7_goBy_28 : decode cX7_goBy 28 = .ok (.iconst 0, 1) := by decide +kernel
theorem dX7_goBy_29 : decode cX7_goBy 29 = .ok (.ireturn, 1) := by decide +kernel
theorem dX7_goBy_30 : decode cX7_goBy 30 = .ok (.aload_n 0, 1) := by decide +kernel
theorem dX7_goBy_31 : decode cX7_goBy 31 = .ok (.getfield 59, 3) := by decide +kernel
theorem dX7_goBy_34 : decode cX7_goBy 34 = .ok (.aload_n 0, 1) := by decide +kernel
theorem dX7_goBy_35 : decode cX7_goBy 35 = .ok (.getfield 118, 3) := by decide +kernel
theorem dX7_goBy_38 : decode cX7_goBy 38 = .ok (.iload_n 1, 1) := by decide +kernel
theorem dX7_goBy_39 : decode cX7_goBy 39 = .ok (.iastore, 1) := by decide +kernel
theorem dX7_goBy_40 : decode cX7_goBy 40 = .ok (.aload_n 0, 1) := by decide +kernel
theorem dX7_goBy_41 : decode cX7_goBy 41 = .ok (.dup, 1) := by decide +kernel
theorem dX7_goBy_42 : decode cX7_goBy 42 = .ok (.getfield 118, 3) := by decide +kernel
theorem dX7_goBy_45 : decode cX7_goBy 45 = .ok (.iconst 1, 1) := by decide +kernel
theorem dX7_goBy_46 : decode cX7_goBy 46 = .ok (.iadd, 1) := by decide +kernel
theorem dX7_goBy_47 : decode cX7_goBy 47 = .ok (.putfield 118, 3) := by decide +kernel
theorem dX7_goBy_50 : decode cX7_goBy 50 = .ok (.aload_n 0, 1) := by decide +kernel
theorem dX7_goBy_51 : decode cX7_goBy 51 = .ok (.iload_n 2, 1) := by decide +kernel
theorem dX7_goBy_52 : decode cX7_goBy 52 = .ok (.iconst 4, 1) := by decide +kernel
theorem dX7_goBy_53 : decode cX7_goBy 53 = .ok (.idiv, 1) := by decide +kernel
theorem dX7_goBy_54 : decode cX7_goBy 54 = .ok (.putfield 115, 3) := by decide +kernel
theorem dX7_goBy_57 : decode cX7_goBy 57 = .ok (.aload_n 0, 1) := by decide +kernel
theorem dX7_goBy_58 : decode cX7_goBy 58 = .ok (.iload_n 2, 1) := by decide +kernel
theorem dX7_goBy_59 : decode cX7_goBy 59 = .ok (.iconst 2, 1) := by decide +kernel
theorem dX7_goBy_60 : decode cX7_goBy 60 = .ok (.iadd, 1) := by decide +kernel
theorem dX7_goBy_61 : decode cX7_goBy 61 = .ok (.iconst 4, 1) := by decide +kernel
theorem dX7_goBy_62 : decode cX7_goBy 62 = .ok (.irem, 1) := by decide +kernel
theorem dX7_goBy_63 : decode cX7_goBy 63 = .ok (.putfield 121, 3) := by decide +kernel
theorem dX7_goBy_66 : decode cX7_goBy 66 = .ok (.iconst 1, 1) := by decide +kernel
theorem dX7_goBy_67 : decode cX7_goBy 67 = .ok (.ireturn, 1) := by decide +kernel
theorem dX7_has_0 : decode cX7_has 0 = .ok (.aload_n 0, 1) := by decide +kernel
theorem dX7_has_1 : decode cX7_has 1 = .ok (.getfield 13, 3) := by decide +kernel
theorem dX7_has_4 : decode cX7_has 4 = .ok (.iconst 4, 1) := by decide +kernel
theorem dX7_has_5 : decode cX7_has 5 = .ok (.aload_n 0, 1) := by decide +kernel
theorem dX7_has_6 : decode cX7_has 6 = .ok (.getfield 115, 3) := by decide +kernel
theorem dX7_has_9 : decode cX7_has 9 = .ok (.imul, 1) := by decide +kernel
theorem dX7_has_10 : decode cX7_has 10 = .ok (.aload_n 0, 1) := by decide +kernel
theorem dX7_has_11 : decode cX7_has 11 = .ok (.getfield 121, 3) := by decide +kernel
theorem dX7_has_14 : decode cX7_has 14 = .ok (.iload_n 1, 1) := by decide +kernel
theorem dX7_has_15 : decode cX7_has 15 = .ok (.iadd, 1) := by decide +kernel
theorem dX7_has_16 : decode cX7_has 16 = .ok (.iconst 4, 1) := by decide +kernel
theorem dX7_has_17 : decode cX7_has 17 = .ok (.irem, 1) := by decide +kernel
theorem dX7_has_18 : decode cX7_has 18 = .ok (.iadd, 1) := by decide +kernel
theorem dX7_has_19 : decode cX7_has 19 = .ok (.iaload, 1) := by decide +kernel
theorem dX7_has_20 : decode cX7_has 20 = .ok (.iconst (-1), 1) := by decide +kernel
theorem dX7_has_21 : decode cX7_has 21 = .ok (.if_icmp .eq 7, 3) := by decide +kernel
theorem dX7_has_24 : decode cX7_has 24 = .ok (.iconst 1, 1) := by decide +kernel
theorem dX7_has_25 : decode cX7_has 25 = .ok (.goto 4, 3) := by decide +kernel
theorem dX7_has_28 : decode cX7_has 28 = .ok (.iconst 0, 1) := by decide +kernel
theorem dX7_has_29 : decode cX7_has 29 = .ok (.ireturn, 1) := by decide +kernel
theorem dX7_goNamed_0 : decode cX7_goNamed 0 = .ok (.iconst (-1), 1) := by decide +kernel
theorem dX7_goNamed_1 : decode cX7_goNamed 1 = .ok (.istore_n 2, 1) := by decide +kernel
theorem dX7_goNamed_2 : decode cX7_goNamed 2 = .ok (.iconst 0, 1) := by decide +kernel
theorem dX7_goNamed_3 : decode cX7_goNamed 3 = .ok (.istore_n 3, 1) := by decide +kernel
theorem dX7_goNamed_4 : decode cX7_goNamed 4 = .ok (.iload_n 3, 1) := by decide +kernel
theorem dX7_goNamed_5 : decode cX7_goNamed 5 = .ok (.iconst 4, 1) := by decide +kernel
theorem dX7_goNamed_6 : decode cX7_goNamed 6 = .ok (.if_icmp .ge 66, 3) := by decide +kernel
theorem dX7_goNamed_9 : decode cX7_goNamed 9 = .ok (.iload_n 3, 1) := by decide +kernel
theorem dX7_goNamed_10 : decode cX7_goNamed 10 = .ok (.iconst 2, 1) := by decide +kernel
theorem dX7_goNamed_11 : decode cX7_goNamed 11 = .ok (.if_icmp .eq 55, 3) := by decide +kernel
theorem dX7_goNamed_14 : decode cX7_goNamed 14 = .ok (.aload_n 0, 1) := by decide +kernel
theorem dX7_goNamed_15 : decode cX7_goNamed 15 = .ok (.iload_n 3, 1) := by decide +kernel
theorem dX7_goNamed_16 : decode cX7_goNamed 16 = .ok (.invokevirtual 124, 3) := by decide +kernel
theorem dX7_goNamed_19 : decode cX7_goNamed 19 = .ok (.ifCond .ne 6, 3) := by decide +kernel
theorem dX7_goNamed_22 : decode cX7_goNamed 22 = .ok (.goto 44, 3) := by decide +kernel
theorem dX7_goNamed_25 : decode cX7_goNamed 25 = .ok (.aload_n 0, 1) := by decide +kernel
theorem dX7_goNamed_26 : decode cX7_goNamed 26 = .ok (.getfield 121, 3) := by decide +kernel
theorem dX7_goNamed_29 : decode cX7_goNamed 29 = .ok (.iload_n 3, 1) := by decide +kernel
theorem dX7_goNamed_30 : decode cX7_goNamed 30 = .ok (.iadd, 1) := by decide +kernel
theorem dX7_goNamed_31 : decode cX7_goNamed 31 = .ok (.iconst 4, 1) := by decide +kernel
theorem dX7_goNamed_32 : decode cX7_goNamed 32 = .ok (.irem, 1) := by decide +kernel
theorem dX7_goNamed_33 : decode cX7_goNamed 33 = .ok (.istore 4, 2) := by decide +kernel
theorem dX7_goNamed_35 : decode cX7_goNamed 35 = .ok (.aload_n 0, 1) := by decide +kernel
theorem dX7_goNamed_36 : decode cX7_goNamed 36 = .ok (.getfield 16, 3) := by decide +kernel
theorem dX7_goNamed_39 : decode cX7_goNamed 39 = .ok (.iconst 4, 1) := by decide +kernel
theorem dX7_goNamed_40 : decode cX7_goNamed 40 = .ok (.aload_n 0, 1) := by decide +kernel
theorem dX7_goNamed_41 : decode cX7_goNamed 41 = .ok (.getfield 115, 3) := by decide +kernel
theorem dX7_goNamed_44 : decode cX7_goNamed 44 = .ok (.imul, 1) := by decide +kernel
theorem dX7_goNamed_45 : decode cX7_goNamed 45 = .ok (.iload 4, 2) := by decide +kernel
theorem dX7_goNamed_47 : decode cX7_goNamed 47 = .ok (.iadd, 1) := by decide +kernel
theorem dX7_goNamed_48 : decode cX7_goNamed 48 = .ok (.iaload, 1) := by decide +kernel
theorem dX7_goNamed_49 : decode cX7_goNamed 49 = .ok (.iload_n 1, 1) := by decide +kernel
theorem dX7_goNamed_50 : decode cX7_goNamed 50 = .ok (.if_icmp .eq 6, 3) := by decide +kernel
theorem dX7_goNamed_53 : decode cX7_goNamed 53 = .ok (.goto 13, 3) := by decide +kernel
theorem dX7_goNamed_56 : decode cX7_goNamed 56 = .ok (.iload_n 2, 1) := by decide +kernel
theorem dX7_goNamed_57 : decode cX7_goNamed 57 = .ok (.iconst (-1), 1) := by decide +kernel
theorem dX7_goNamed_58 : decode cX7_goNamed 58 = .ok (.if_icmp .eq 5, 3) := by decide +kernel
theorem dX7_goNamed_61 : decode cX7_goNamed 61 = .ok (.iconst 0, 1) := by decide +kernel
theorem dX7_goNamed_62 : decode cX7_goNamed 62 = .ok (.ireturn, 1) := by decide +kernel
theorem dX7_goNamed_63 : decode cX7_goNamed 63 = .ok (.iload 4, 2) := by decide +kernel
theorem dX7_goNamed_65 : decode cX7_goNamed 65 = .ok (.istore_n 2, 1) := by decide +kernel
theorem dX7_goNamed_66 : decode cX7_goNamed 66 = .ok (.iinc 3 1, 3) := by decide +kernel
theorem dX7_goNamed_69 : decode cX7_goNamed 69 = .ok (.goto (-65), 3) := by decide +kernel
theorem dX7_goNamed_72 : decode cX7_goNamed 72 = .ok (.iload_n 2, 1) := by decide +kernel
theorem dX7_goNamed_73 : decode cX7_goNamed 73 = .ok (.iconst (-1), 1) := by decide +kernel
theorem dX7_goNamed_74 : decode cX7_goNamed 74 = .ok (.if_icmp .eq 15, 3) := by decide +kernel
theorem dX7_goNamed_77 : decode cX7_goNamed 77 = .ok (.aload_n 0, 1) := by decide +kernel
theorem dX7_goNamed_78 : decode cX7_goNamed 78 = .ok (.iload_n 2, 1) := by decide +kernel
theorem dX7_goNamed_79 : decode cX7_goNamed 79 = .ok (.invokevirtual 127, 3) := by decide +kernel
theorem dX7_goNamed_82 : decode cX7_goNamed 82 = .ok (.ifCond .eq 7, 3) := by decide +kernel
theorem dX7_goNamed_85 : decode cX7_goNamed 85 = .ok (.iconst 1, 1) := by decide +kernel
theorem dX7_goNamed_86 : decode cX7_goNamed 86 = .ok (.goto 4, 3) := by decide +kernel
theorem dX7_goNamed_89 : decode cX7_goNamed 89 = .ok (.iconst 0, 1) := by decide +kernel
theorem dX7_goNamed_90 : decode cX7_goNamed 90 = .ok (.ireturn, 1) := by decide +kernel
theorem dX7_does_0 : decode cX7_does 0 = .ok (.aload_n 0, 1) := by decide +kernel
theorem dX7_does_1 : decode cX7_does 1 = .ok (.iconst 0, 1) := by decide +kernel
theorem dX7_does_2 : decode cX7_does 2 = .ok (.putfield 118, 3) := by decide +kernel
theorem dX7_does_5 : decode cX7_does 5 = .ok (.iload_n 1, 1) := by decide +kernel
theorem dX7_does_6 : decode cX7_does 6 = .ok (.iconst 4, 1) := by decide +kernel
theorem dX7_does_7 : decode cX7_does 7 = .ok (.if_icmp .ge 16, 3) := by decide +kernel
theorem dX7_does_10 : decode cX7_does 10 = .ok (.aload_n 0, 1) := by decide +kernel
theorem dX7_does_11 : decode cX7_does 11 = .ok (.aload_n 0, 1) := by decide +kernel
theorem dX7_does_12 : decode cX7_does 12 = .ok (.getfield 121, 3) := by decide +kernel
theorem dX7_does_15 : decode cX7_does 15 = .ok (.iload_n 1, 1) := by decide +kernel
theorem dX7_does_16 : decode cX7_does 16 = .ok (.iadd, 1) := by decide +kernel
theorem dX7_does_17 : decode cX7_does 17 = .ok (.iconst 4, 1) := by decide +kernel
theorem dX7_does_18 : decode cX7_does 18 = .ok (.irem, 1) := by decide +kernel
theorem dX7_does_19 : decode cX7_does 19 = .ok (.invokevirtual 127, 3) := by decide +kernel
theorem dX7_does_22 : decode cX7_does 22 = .ok (.ireturn, 1) := by decide +kernel
theorem dX7_does_23 : decode cX7_does 23 = .ok (.iload_n 1, 1) := by decide +kernel
theorem dX7_does_24 : decode cX7_does 24 = .ok (.bipush 7, 2) := by decide +kernel
theorem dX7_does_26 : decode cX7_does 26 = .ok (.if_icmp .ne 9, 3) := by decide +kernel
theorem dX7_does_29 : decode cX7_does 29 = .ok (.aload_n 0, 1) := by decide +kernel
theorem dX7_does_30 : decode cX7_does 30 = .ok (.iload_n 2, 1) := by decide +kernel
theorem dX7_does_31 : decode cX7_does 31 = .ok (.invokevirtual 130, 3) := by decide +kernel
theorem dX7_does_34 : decode cX7_does 34 = .ok (.ireturn, 1) := by decide +kernel
theorem dX7_does_35 : decode cX7_does 35 = .ok (.iload_n 1, 1) := by decide +kernel
theorem dX7_does_36 : decode cX7_does 36 = .ok (.bipush 6, 2) := by decide +kernel
theorem dX7_does_38 : decode cX7_does 38 = .ok (.if_icmp .ge 62, 3) := by decide +kernel
theorem dX7_does_41 : decode cX7_does 41 = .ok (.iload_n 1, 1) := by decide +kernel
theorem dX7_does_42 : decode cX7_does 42 = .ok (.iconst 4, 1) := by decide +kernel
theorem dX7_does_43 : decode cX7_does 43 = .ok (.if_icmp .ne 7, 3) := by decide +kernel
theorem dX7_does_46 : decode cX7_does 46 = .ok (.iconst 3, 1) := by decide +kernel
theorem dX7_does_47 : decode cX7_does 47 = .ok (.goto 4, 3) := by decide +kernel
theorem dX7_does_50 : decode cX7_does 50 = .ok (.iconst 1, 1) := by decide +kernel
theorem dX7_does_51 : decode cX7_does 51 = .ok (.istore 4, 2) := by decide +kernel
theorem dX7_does_53 : decode cX7_does 53 = .ok (.iload_n 2, 1) := by decide +kernel
theorem dX7_does_54 : decode cX7_does 54 = .ok (.istore 5, 2) := by decide +kernel
theorem dX7_does_56 : decode cX7_does 56 = .ok (.aload_n 0, 1) := by decide +kernel
theorem dX7_does_57 : decode cX7_does 57 = .ok (.iload 4, 2) := by decide +kernel
theorem dX7_does_59 : decode cX7_does 59 = .ok (.invokevirtual 124, 3) := by decide +kernel
theorem dX7_does_62 : decode cX7_does 62 = .ok (.ifCond .eq 6, 3) := by decide +kernel
theorem dX7_does_65 : decode cX7_does 65 = .ok (.iinc 5 (-1), 3) := by decide +kernel
theorem dX7_does_68 : decode cX7_does 68 = .ok (.iload 5, 2) := by decide +kernel
theorem dX7_does_70 : decode cX7_does 70 = .ok (.ifCond .ne 17, 3) := by decide +kernel
theorem dX7_does_73 : decode cX7_does 73 = .ok (.aload_n 0, 1) := by decide +kernel
theorem dX7_does_74 : decode cX7_does 74 = .ok (.aload_n 0, 1) := by decide +kernel
theorem dX7_does_75 : decode cX7_does 75 = .ok (.getfield 121, 3) := by decide +kernel
theorem dX7_does_78 : decode cX7_does 78 = .ok (.iload 4, 2) := by decide +kernel
theorem dX7_does_80 : decode cX7_does 80 = .ok (.iadd, 1) := by decide +kernel
theorem dX7_does_81 : decode cX7_does 81 = .ok (.iconst 4, 1) := by decide +kernel
theorem dX7_does_82 : decode cX7_does 82 = .ok (.irem, 1) := by decide +kernel
theorem dX7_does_83 : decode cX7_does 83 = .ok (.invokevirtual 127, 3) := by decide +kernel
theorem dX7_does_86 : decode cX7_does 86 = .ok (.ireturn, 1) := by decide +kernel
theorem dX7_does_87 : decode cX7_does 87 = .ok (.aload_n 0, 1) := by decide +kernel
theorem dX7_does_88 : decode cX7_does 88 = .ok (.aload_n 0, 1) := by decide +kernel
theorem dX7_does_89 : decode cX7_does 89 = .ok (.getfield 121, 3) := by decide +kernel
theorem dX7_does_92 : decode cX7_does 92 = .ok (.invokevirtual 127, 3) := by decide +kernel
theorem dX7_does_95 : decode cX7_does 95 = .ok (.ifCond .ne (-39), 3) := by decide +kernel
theorem dX7_does_98 : decode cX7_does 98 = .ok (.iconst 0, 1) := by decide +kernel
theorem dX7_does_99 : decode cX7_does 99 = .ok (.ireturn, 1) := by decide +kernel
theorem dX7_does_100 : decode cX7_does 100 = .ok (.iload_n 3, 1) := by decide +kernel
theorem dX7_does_101 : decode cX7_does 101 = .ok (.istore 4, 2) := by decide +kernel
theorem dX7_does_103 : decode cX7_does 103 = .ok (.aload_n 0, 1) := by decide +kernel
theorem dX7_does_104 : decode cX7_does 104 = .ok (.aload_n 0, 1) := by decide +kernel
theorem dX7_does_105 : decode cX7_does 105 = .ok (.getfield 121, 3) := by decide +kernel
theorem dX7_does_108 : decode cX7_does 108 = .ok (.invokevirtual 127, 3) := by decide +kernel
theorem dX7_does_111 : decode cX7_does 111 = .ok (.ifCond .ne 5, 3) := by decide +kernel
theorem dX7_does_114 : decode cX7_does 114 = .ok (.iconst 0, 1) := by decide +kernel
theorem dX7_does_115 : decode cX7_does 115 = .ok (.ireturn, 1) := by decide +kernel
theorem dX7_does_116 : decode cX7_does 116 = .ok (.iload_n 1, 1) := by decide +kernel
theorem dX7_does_117 : decode cX7_does 117 = .ok (.bipush 8, 2) := by decide +kernel
theorem dX7_does_119 : decode cX7_does 119 = .ok (.if_icmp .ne 13, 3) := by decide +kernel
theorem dX7_does_122 : decode cX7_does 122 = .ok (.aload_n 0, 1) := by decide +kernel
theorem dX7_does_123 : decode cX7_does 123 = .ok (.iconst 0, 1) := by decide +kernel
theorem dX7_does_124 : decode cX7_does 124 = .ok (.invokevirtual 124, 3) := by decide +kernel
theorem dX7_does_127 : decode cX7_does 127 = .ok (.ifCond .ne 5, 3) := by decide +kernel
theorem dX7_does_130 : decode cX7_does 130 = .ok (.iconst 1, 1) := by decide +kernel
theorem dX7_does_131 : decode cX7_does 131 = .ok (.ireturn, 1) := by decide +kernel
theorem dX7_does_132 : decode cX7_does 132 = .ok (.iload_n 1, 1) := by decide +kernel
theorem dX7_does_133 : decode cX7_does 133 = .ok (.bipush 6, 2) := by decide +kernel
theorem dX7_does_135 : decode cX7_does 135 = .ok (.if_icmp .ne (-32), 3) := by decide +kernel
theorem dX7_does_138 : decode cX7_does 138 = .ok (.aload_n 0, 1) := by decide +kernel
theorem dX7_does_139 : decode cX7_does 139 = .ok (.getfield 9, 3) := by decide +kernel
theorem dX7_does_142 : decode cX7_does 142 = .ok (.aload_n 0, 1) := by decide +kernel
theorem dX7_does_143 : decode cX7_does 143 = .ok (.getfield 115, 3) := by decide +kernel
theorem dX7_does_146 : decode cX7_does 146 = .ok (.iaload, 1) := by decide +kernel
theorem dX7_does_147 : decode cX7_does 147 = .ok (.iload_n 2, 1) := by decide +kernel
theorem dX7_does_148 : decode cX7_does 148 = .ok (.if_icmp .ne (-45), 3) := by decide +kernel
theorem dX7_does_151 : decode cX7_does 151 = .ok (.iload 4, 2) := by decide +kernel
theorem dX7_does_153 : decode cX7_does 153 = .ok (.ifCond .ne 5, 3) := by decide +kernel
theorem dX7_does_156 : decode cX7_does 156 = .ok (.iconst 1, 1) := by decide +kernel
theorem dX7_does_157 : decode cX7_does 157 = .ok (.ireturn, 1) := by decide +kernel
theorem dX7_does_158 : decode cX7_does 158 = .ok (.iinc 4 (-1), 3) := by decide +kernel
theorem dX7_does_161 : decode cX7_does 161 = .ok (.goto (-58), 3) := by decide +kernel
theorem dX7_say_0 : decode cX7_say 0 = .ok (.iload_n 1, 1) := by decide +kernel
theorem dX7_say_1 : decode cX7_say 1 = .ok (.iload_n 2, 1) := by decide +kernel
theorem dX7_say_2 : decode cX7_say 2 = .ok (.invokestatic 133, 3) := by decide +kernel
theorem dX7_say_5 : decode cX7_say 5 = .ok (.ifCond .eq 12, 3) := by decide +kernel
theorem dX7_say_8 : decode cX7_say 8 = .ok (.aload_n 0, 1) := by decide +kernel
theorem dX7_say_9 : decode cX7_say 9 = .ok (.getfield 136, 3) := by decide +kernel
theorem dX7_say_12 : decode cX7_say 12 = .ok (.bipush 60, 2) := by decide +kernel
theorem dX7_say_14 : decode cX7_say 14 = .ok (.if_icmp .ne 5, 3) := by decide +kernel
theorem dX7_say_17 : decode cX7_say 17 = .ok (.iconst (-1), 1) := by decide +kernel
theorem dX7_say_18 : decode cX7_say 18 = .ok (.ireturn, 1) := by decide +kernel
theorem dX7_say_19 : decode cX7_say 19 = .ok (.aload_n 0, 1) := by decide +kernel
theorem dX7_say_20 : decode cX7_say 20 = .ok (.getfield 26, 3) := by decide +kernel
theorem dX7_say_23 : decode cX7_say 23 = .ok (.aload_n 0, 1) := by decide +kernel
theorem dX7_say_24 : decode cX7_say 24 = .ok (.getfield 136, 3) := by decide +kernel
theorem dX7_say_27 : decode cX7_say 27 = .ok (.iload_n 1, 1) := by decide +kernel
theorem dX7_say_28 : decode cX7_say 28 = .ok (.iastore, 1) := by decide +kernel
theorem dX7_say_29 : decode cX7_say 29 = .ok (.aload_n 0, 1) := by decide +kernel
theorem dX7_say_30 : decode cX7_say 30 = .ok (.getfield 29, 3) := by decide +kernel
theorem dX7_say_33 : decode cX7_say 33 = .ok (.aload_n 0, 1) := by decide +kernel
theorem dX7_say_34 : decode cX7_say 34 = .ok (.getfield 136, 3) := by decide +kernel
theorem dX7_say_37 : decode cX7_say 37 = .ok (.iload_n 2, 1) := by decide +kernel
theorem dX7_say_38 : decode cX7_say 38 = .ok (.iastore, 1) := by decide +kernel
theorem dX7_say_39 : decode cX7_say 39 = .ok (.aload_n 0, 1) := by decide +kernel
theorem dX7_say_40 : decode cX7_say 40 = .ok (.dup, 1) := by decide +kernel
theorem dX7_say_41 : decode cX7_say 41 = .ok (.getfield 136, 3) := by decide +kernel
theorem dX7_say_44 : decode cX7_say 44 = .ok (.iconst 1, 1) := by decide +kernel
theorem dX7_say_45 : decode cX7_say 45 = .ok (.iadd, 1) := by decide +kernel
theorem dX7_say_46 : decode cX7_say 46 = .ok (.putfield 136, 3) := by decide +kernel
theorem dX7_say_49 : decode cX7_say 49 = .ok (.aload_n 0, 1) := by decide +kernel
theorem dX7_say_50 : decode cX7_say 50 = .ok (.getfield 136, 3) := by decide +kernel
theorem dX7_say_53 : decode cX7_say 53 = .ok (.ireturn, 1) := by decide +kernel
theorem dX7_hush_0 : decode cX7_hush 0 = .ok (.aload_n 0, 1) := by decide +kernel
theorem dX7_hush_1 : decode cX7_hush 1 = .ok (.getfield 136, 3) := by decide +kernel
theorem dX7_hush_4 : decode cX7_hush 4 = .ok (.istore_n 1, 1) := by decide +kernel
theorem dX7_hush_5 : decode cX7_hush 5 = .ok (.aload_n 0, 1) := by decide +kernel
theorem dX7_hush_6 : decode cX7_hush 6 = .ok (.iconst 0, 1) := by decide +kernel
theorem dX7_hush_7 : decode cX7_hush 7 = .ok (.putfield 136, 3) := by decide +kernel
theorem dX7_hush_10 : decode cX7_hush 10 = .ok (.iload_n 1, 1) := by decide +kernel
theorem dX7_hush_11 : decode cX7_hush 11 = .ok (.ireturn, 1) := by decide +kernel
theorem dX7_said_0 : decode cX7_said 0 = .ok (.iload_n 1, 1) := by decide +kernel
theorem dX7_said_1 : decode cX7_said 1 = .ok (.iconst 0, 1) := by decide +kernel
theorem dX7_said_2 : decode cX7_said 2 = .ok (.aload_n 0, 1) := by decide +kernel
theorem dX7_said_3 : decode cX7_said 3 = .ok (.getfield 136, 3) := by decide +kernel
theorem dX7_said_6 : decode cX7_said 6 = .ok (.iconst 1, 1) := by decide +kernel
theorem dX7_said_7 : decode cX7_said 7 = .ok (.isub, 1) := by decide +kernel
theorem dX7_said_8 : decode cX7_said 8 = .ok (.invokestatic 86, 3) := by decide +kernel
theorem dX7_said_11 : decode cX7_said 11 = .ok (.ifCond .eq 22, 3) := by decide +kernel
theorem dX7_said_14 : decode cX7_said 14 = .ok (.bipush 10, 2) := by decide +kernel
theorem dX7_said_16 : decode cX7_said 16 = .ok (.aload_n 0, 1) := by decide +kernel
theorem dX7_said_17 : decode cX7_said 17 = .ok (.getfield 26, 3) := by decide +kernel
theorem dX7_said_20 : decode cX7_said 20 = .ok (.iload_n 1, 1) := by decide +kernel
theorem dX7_said_21 : decode cX7_said 21 = .ok (.iaload, 1) := by decide +kernel
theorem dX7_said_22 : decode cX7_said 22 = .ok (.imul, 1) := by decide +kernel
theorem dX7_said_23 : decode cX7_said 23 = .ok (.aload_n 0, 1) := by decide +kernel
theorem dX7_said_24 : decode cX7_said 24 = .ok (.getfield 29, 3) := by decide +kernel
theorem dX7_said_27 : decode cX7_said 27 = .ok (.iload_n 1, 1) := by decide +kernel
theorem dX7_said_28 : decode cX7_said 28 = .ok (.iaload, 1) := by decide +kernel
theorem dX7_said_29 : decode cX7_said 29 = .ok (.iadd, 1) := by decide +kernel
theorem dX7_said_30 : decode cX7_said 30 = .ok (.goto 4, 3) := by decide +kernel
theorem dX7_said_33 : decode cX7_said 33 = .ok (.iconst (-1), 1) := by decide +kernel
theorem dX7_said_34 : decode cX7_said 34 = .ok (.ireturn, 1) := by decide +kernel
theorem dX7_walk_0 : decode cX7_walk 0 = .ok (.aload_n 0, 1) := by decide +kernel
theorem dX7_walk_1 : decode cX7_walk 1 = .ok (.iload_n 1, 1) := by decide +kernel
theorem dX7_walk_2 : decode cX7_walk 2 = .ok (.iload_n 2, 1) := by decide +kernel
theorem dX7_walk_3 : decode cX7_walk 3 = .ok (.invokevirtual 94, 3) := by decide +kernel
theorem dX7_walk_6 : decode cX7_walk 6 = .ok (.ifCond .ne 5, 3) := by decide +kernel
theorem dX7_walk_9 : decode cX7_walk 9 = .ok (.iconst (-1), 1) := by decide +kernel
theorem dX7_walk_10 : decode cX7_walk 10 = .ok (.ireturn, 1) := by decide +kernel
theorem dX7_walk_11 : decode cX7_walk 11 = .ok (.aload_n 0, 1) := by decide +kernel
theorem dX7_walk_12 : decode cX7_walk 12 = .ok (.iconst 1, 1) := by decide +kernel
theorem dX7_walk_13 : decode cX7_walk 13 = .ok (.putfield 139, 3) := by decide +kernel
theorem dX7_walk_16 : decode cX7_walk 16 = .ok (.aload_n 0, 1) := by decide +kernel
theorem dX7_walk_17 : decode cX7_walk 17 = .ok (.iconst 0, 1) := by decide +kernel
theorem dX7_walk_18 : decode cX7_walk 18 = .ok (.putfield 142, 3) := by decide +kernel
theorem dX7_walk_21 : decode cX7_walk 21 = .ok (.aload_n 0, 1) := by decide +kernel
theorem dX7_walk_22 : decode cX7_walk 22 = .ok (.iload_n 1, 1) := by decide +kernel
theorem dX7_walk_23 : decode cX7_walk 23 = .ok (.putfield 115, 3) := by decide +kernel
theorem dX7_walk_26 : decode cX7_walk 26 = .ok (.aload_n 0, 1) := by decide +kernel
theorem dX7_walk_27 : decode cX7_walk 27 = .ok (.iload_n 2, 1) := by decide +kernel
theorem dX7_walk_28 : decode cX7_walk 28 = .ok (.putfield 121, 3) := by decide +kernel
theorem dX7_walk_31 : decode cX7_walk 31 = .ok (.iconst (-1), 1) := by decide +kernel
theorem dX7_walk_32 : decode cX7_walk 32 = .ok (.istore_n 3, 1) := by decide +kernel
theorem dX7_walk_33 : decode cX7_walk 33 = .ok (.iconst 0, 1) := by decide +kernel
theorem dX7_walk_34 : decode cX7_walk 34 = .ok (.istore 4, 2) := by decide +kernel
theorem dX7_walk_36 : decode cX7_walk 36 = .ok (.iload 4, 2) := by decide +kernel
theorem dX7_walk_38 : decode cX7_walk 38 = .ok (.aload_n 0, 1) := by decide +kernel
theorem dX7_walk_39 : decode cX7_walk 39 = .ok (.getfield 136, 3) := by decide +kernel
theorem dX7_walk_42 : decode cX7_walk 42 = .ok (.if_icmp .ge 96, 3) := by decide +kernel
theorem dX7_walk_45 : decode cX7_walk 45 = .ok (.iload_n 3, 1) := by decide +kernel
theorem dX7_walk_46 : decode cX7_walk 46 = .ok (.iconst (-1), 1) := by decide +kernel
theorem dX7_walk_47 : decode cX7_walk 47 = .ok (.if_icmp .ne 91, 3) := by decide +kernel
theorem dX7_walk_50 : decode cX7_walk 50 = .ok (.aload_n 0, 1) := by decide +kernel
theorem dX7_walk_51 : decode cX7_walk 51 = .ok (.aload_n 0, 1) := by decide +kernel
theorem dX7_walk_52 : decode cX7_walk 52 = .ok (.getfield 26, 3) := by decide +kernel
theorem dX7_walk_55 : decode cX7_walk 55 = .ok (.iload 4, 2) := by decide +kernel
theorem dX7_walk_57 : decode cX7_walk 57 = .ok (.iaload, 1) := by decide +kernel
theorem dX7_walk_58 : decode cX7_walk 58 = .ok (.aload_n 0, 1) := by decide +kernel
theorem dX7_walk_59 : decode cX7_walk 59 = .ok (.getfield 29, 3) := by decide +kernel
theorem dX7_walk_62 : decode cX7_walk 62 = .ok (.iload 4, 2) := by decide +kernel
theorem dX7_walk_64 : decode cX7_walk 64 = .ok (.iaload, 1) := by decide +kernel
theorem dX7_walk_65 : decode cX7_walk 65 = .ok (.iconst 0, 1) := by decide +kernel
theorem dX7_walk_66 : decode cX7_walk 66 = .ok (.invokevirtual 145, 3) := by decide +kernel
theorem dX7_walk_69 : decode cX7_walk 69 = .ok (.ifCond .ne 9, 3) := by decide +kernel
theorem dX7_walk_72 : decode cX7_walk 72 = .ok (.bipush (-2), 2) := by decide +kernel
theorem dX7_walk_74 : decode cX7_walk 74 = .ok (.iload 4, 2) := by decide +kernel
theorem dX7_walk_76 : decode cX7_walk 76 = .ok (.isub, 1) := by decide +kernel
theorem dX7_walk_77 : decode cX7_walk 77 = .ok (.istore_n 3, 1) := by decide +kernel
theorem dX7_walk_78 : decode cX7_walk 78 = .ok (.iconst 0, 1) := by decide +kernel
theorem dX7_walk_79 : decode cX7_walk 79 = .ok (.istore 5, 2) := by decide +kernel
theorem dX7_walk_81 : decode cX7_walk 81 = .ok (.iload 5, 2) := by decide +kernel
theorem dX7_walk_83 : decode cX7_walk 83 = .ok (.aload_n 0, 1) := by decide +kernel
theorem dX7_walk_84 : decode cX7_walk 84 = .ok (.getfield 118, 3) := by decide +kernel
theorem dX7_walk_87 : decode cX7_walk 87 = .ok (.if_icmp .ge 45, 3) := by decide +kernel
theorem dX7_walk_90 : decode cX7_walk 90 = .ok (.aload_n 0, 1) := by decide +kernel
theorem dX7_walk_91 : decode cX7_walk 91 = .ok (.getfield 142, 3) := by decide +kernel
theorem dX7_walk_94 : decode cX7_walk 94 = .ok (.sipush 200, 3) := by decide +kernel
theorem dX7_walk_97 : decode cX7_walk 97 = .ok (.if_icmp .ge 19, 3) := by decide +kernel
theorem dX7_walk_100 : decode cX7_walk 100 = .ok (.aload_n 0, 1) := by decide +kernel
theorem dX7_walk_101 : decode cX7_walk 101 = .ok (.getfield 35, 3) := by decide +kernel
theorem dX7_walk_104 : decode cX7_walk 104 = .ok (.aload_n 0, 1) := by decide +kernel
theorem dX7_walk_105 : decode cX7_walk 105 = .ok (.getfield 142, 3) := by decide +kernel
theorem dX7_walk_108 : decode cX7_walk 108 = .ok (.aload_n 0, 1) := by decide +kernel
theorem dX7_walk_109 : decode cX7_walk 109 = .ok (.getfield 59, 3) := by decide +kernel
theorem dX7_walk_112 : decode cX7_walk 112 = .ok (.iload 5, 2) := by decide +kernel
theorem dX7_walk_114 : decode cX7_walk 114 = .ok (.iaload, 1) := by decide +kernel
theorem dX7_walk_115 : decode cX7_walk 115 = .ok (.iastore, 1) := by decide +kernel
theorem dX7_walk_116 : decode cX7_walk 116 = .ok (.aload_n 0, 1) := by decide +kernel
theorem dX7_walk_117 : decode cX7_walk 117 = .ok (.dup, 1) := by decide +kernel
theorem dX7_walk_118 : decode cX7_walk 118 = .ok (.getfield 142, 3) := by decide +kernel
theorem dX7_walk_121 : decode cX7_walk 121 = .ok (.iconst 1, 1) := by decide +kernel
theorem dX7_walk_122 : decode cX7_walk 122 = .ok (.iadd, 1) := by decide +kernel
theorem dX7_walk_123 : decode cX7_walk 123 = .ok (.putfield 142, 3) := by decide +kernel
theorem dX7_walk_126 : decode cX7_walk 126 = .ok (.iinc 5 1, 3) := by decide +kernel
theorem dX7_walk_129 : decode cX7_walk 129 = .ok (.goto (-48), 3) := by decide +kernel
theorem dX7_walk_132 : decode cX7_walk 132 = .ok (.iinc 4 1, 3) := by decide +kernel
theorem dX7_walk_135 : decode cX7_walk 135 = .ok (.goto (-99), 3) := by decide +kernel
theorem dX7_walk_138 : decode cX7_walk 138 = .ok (.aload_n 0, 1) := by decide +kernel
theorem dX7_walk_139 : decode cX7_walk 139 = .ok (.aload_n 0, 1) := by decide +kernel
theorem dX7_walk_140 : decode cX7_walk 140 = .ok (.getfield 115, 3) := by decide +kernel
theorem dX7_walk_143 : decode cX7_walk 143 = .ok (.putfield 148, 3) := by decide +kernel
theorem dX7_walk_146 : decode cX7_walk 146 = .ok (.aload_n 0, 1) := by decide +kernel
theorem dX7_walk_147 : decode cX7_walk 147 = .ok (.aload_n 0, 1) := by decide +kernel
theorem dX7_walk_148 : decode cX7_walk 148 = .ok (.getfield 121, 3) := by decide +kernel
theorem dX7_walk_151 : decode cX7_walk 151 = .ok (.putfield 151, 3) := by decide +kernel
theorem dX7_walk_154 : decode cX7_walk 154 = .ok (.iload_n 3, 1) := by decide +kernel
theorem dX7_walk_155 : decode cX7_walk 155 = .ok (.iconst (-1), 1) := by decide +kernel
theorem dX7_walk_156 : decode cX7_walk 156 = .ok (.if_icmp .ne 10, 3) := by decide +kernel
theorem dX7_walk_159 : decode cX7_walk 159 = .ok (.aload_n 0, 1) := by decide +kernel
theorem dX7_walk_160 : decode cX7_walk 160 = .ok (.getfield 115, 3) := by decide +kernel
theorem dX7_walk_163 : decode cX7_walk 163 = .ok (.goto 4, 3) := by decide +kernel
theorem dX7_walk_166 : decode cX7_walk 166 = .ok (.iload_n 3, 1) := by decide +kernel
theorem dX7_walk_167 : decode cX7_walk 167 = .ok (.ireturn, 1) := by decide +kernel
theorem dX7_walked_0 : decode cX7_walked 0 = .ok (.aload_n 0, 1) := by decide +kernel
theorem dX7_walked_1 : decode cX7_walked 1 = .ok (.getfield 139, 3) := by decide +kernel
theorem dX7_walked_4 : decode cX7_walked 4 = .ok (.ifCond .ne 5, 3) := by decide +kernel
theorem dX7_walked_7 : decode cX7_walked 7 = .ok (.iconst (-1), 1) := by decide +kernel
theorem dX7_walked_8 : decode cX7_walked 8 = .ok (.ireturn, 1) := by decide +kernel
theorem dX7_walked_9 : decode cX7_walked 9 = .ok (.iload_n 1, 1) := by decide +kernel
theorem dX7_walked_10 : decode cX7_walked 10 = .ok (.bipush 10, 2) := by decide +kernel
theorem dX7_walked_12 : decode cX7_walked 12 = .ok (.if_icmp .lt 38, 3) := by decide +kernel
theorem dX7_walked_15 : decode cX7_walked 15 = .ok (.iload_n 1, 1) := by decide +kernel
theorem dX7_walked_16 : decode cX7_walked 16 = .ok (.bipush 10, 2) := by decide +kernel
theorem dX7_walked_18 : decode cX7_walked 18 = .ok (.isub, 1) := by decide +kernel
theorem dX7_walked_19 : decode cX7_walked 19 = .ok (.aload_n 0, 1) := by decide +kernel
