theorem dX7_slip_225 : decode cX7_slip 225 = .ok (.iconst 1, 1) := by decide +kernel
theorem dX7_slip_226 : decode cX7_slip 226 = .ok (.goto 4, 3) := by decide +kernel
theorem dX7_slip_229 : decode cX7_slip 229 = .ok (.iconst 0, 1) := by decide +kernel
theorem dX7_slip_230 : decode cX7_slip 230 = .ok (.ireturn, 1) := by decide +kernel
theorem dX7_from_0 : decode cX7_from 0 = .ok (.aload_n 0, 1) := by decide +kernel
theorem dX7_from_1 : decode cX7_from 1 = .ok (.iload_n 1, 1) := by decide +kernel
theorem dX7_from_2 : decode cX7_from 2 = .ok (.iconst 4, 1) := by decide +kernel
theorem dX7_from_3 : decode cX7_from 3 = .ok (.idiv, 1) := by decide +kernel
theorem dX7_from_4 : decode cX7_from 4 = .ok (.putfield 115, 3) := by decide +kernel
theorem dX7_from_7 : decode cX7_from 7 = .ok (.aload_n 0, 1) := by decide +kernel
theorem dX7_from_8 : decode cX7_from 8 = .ok (.iload_n 1, 1) := by decide +kernel
theorem dX7_from_9 : decode cX7_from 9 = .ok (.iconst 4, 1) := by decide +kernel
theorem dX7_from_10 : decode cX7_from 10 = .ok (.irem, 1) := by decide +kernel
theorem dX7_from_11 : decode cX7_from 11 = .ok (.putfield 121, 3) := by decide +kernel
theorem dX7_from_14 : decode cX7_from 14 = .ok (.aload_n 0, 1) := by decide +kernel
theorem dX7_from_15 : decode cX7_from 15 = .ok (.iload_n 2, 1) := by decide +kernel
theorem dX7_from_16 : decode cX7_from 16 = .ok (.iload_n 3, 1) := by decide +kernel
theorem dX7_from_17 : decode cX7_from 17 = .ok (.iconst 0, 1) := by decide +kernel
theorem dX7_from_18 : decode cX7_from 18 = .ok (.invokevirtual 145, 3) := by decide +kernel
theorem dX7_from_21 : decode cX7_from 21 = .ok (.ifCond .eq 17, 3) := by decide +kernel
theorem dX7_from_24 : decode cX7_from 24 = .ok (.iconst 4, 1) := by decide +kernel
theorem dX7_from_25 : decode cX7_from 25 = .ok (.aload_n 0, 1) := by decide +kernel
theorem dX7_from_26 : decode cX7_from 26 = .ok (.getfield 115, 3) := by decide +kernel
theorem dX7_from_29 : decode cX7_from 29 = .ok (.imul, 1) := by decide +kernel
theorem dX7_from_30 : decode cX7_from 30 = .ok (.aload_n 0, 1) := by decide +kernel
theorem dX7_from_31 : decode cX7_from 31 = .ok (.getfield 121, 3) := by decide +kernel
theorem dX7_from_34 : decode cX7_from 34 = .ok (.iadd, 1) := by decide +kernel
theorem dX7_from_35 : decode cX7_from 35 = .ok (.goto 4, 3) := by decide +kernel
theorem dX7_from_38 : decode cX7_from 38 = .ok (.iconst (-1), 1) := by decide +kernel
theorem dX7_from_39 : decode cX7_from 39 = .ok (.ireturn, 1) := by decide +kernel
theorem dX7_best_0 : decode cX7_best 0 = .ok (.aload_n 0, 1) := by decide +kernel
theorem dX7_best_1 : decode cX7_best 1 = .ok (.iload_n 1, 1) := by decide +kernel
theorem dX7_best_2 : decode cX7_best 2 = .ok (.iload_n 2, 1) := by decide +kernel
theorem dX7_best_3 : decode cX7_best 3 = .ok (.invokevirtual 94, 3) := by decide +kernel
theorem dX7_best_6 : decode cX7_best 6 = .ok (.ifCond .eq 11, 3) := by decide +kernel
theorem dX7_best_9 : decode cX7_best 9 = .ok (.aload_n 0, 1) := by decide +kernel
theorem dX7_best_10 : decode cX7_best 10 = .ok (.iload_n 3, 1) := by decide +kernel
theorem dX7_best_11 : decode cX7_best 11 = .ok (.invokevirtual 90, 3) := by decide +kernel
theorem dX7_best_14 : decode cX7_best 14 = .ok (.ifCond .ne 5, 3) := by decide +kernel
theorem dX7_best_17 : decode cX7_best 17 = .ok (.iconst (-1), 1) := by decide +kernel
theorem dX7_best_18 : decode cX7_best 18 = .ok (.ireturn, 1) := by decide +kernel
theorem dX7_best_19 : decode cX7_best 19 = .ok (.iconst 0, 1) := by decide +kernel
theorem dX7_best_20 : decode cX7_best 20 = .ok (.istore 4, 2) := by decide +kernel
theorem dX7_best_22 : decode cX7_best 22 = .ok (.iload 4, 2) := by decide +kernel
theorem dX7_best_24 : decode cX7_best 24 = .ok (.iconst 4, 1) := by decide +kernel
theorem dX7_best_25 : decode cX7_best 25 = .ok (.aload_n 0, 1) := by decide +kernel
theorem dX7_best_26 : decode cX7_best 26 = .ok (.getfield 83, 3) := by decide +kernel
theorem dX7_best_29 : decode cX7_best 29 = .ok (.imul, 1) := by decide +kernel
theorem dX7_best_30 : decode cX7_best 30 = .ok (.if_icmp .ge 38, 3) := by decide +kernel
theorem dX7_best_33 : decode cX7_best 33 = .ok (.aload_n 0, 1) := by decide +kernel
theorem dX7_best_34 : decode cX7_best 34 = .ok (.getfield 71, 3) := by decide +kernel
theorem dX7_best_37 : decode cX7_best 37 = .ok (.iload 4, 2) := by decide +kernel
theorem dX7_best_39 : decode cX7_best 39 = .ok (.iload 4, 2) := by decide +kernel
theorem dX7_best_41 : decode cX7_best 41 = .ok (.iconst 4, 1) := by decide +kernel
theorem dX7_best_42 : decode cX7_best 42 = .ok (.idiv, 1) := by decide +kernel
theorem dX7_best_43 : decode cX7_best 43 = .ok (.iload_n 3, 1) := by decide +kernel
theorem dX7_best_44 : decode cX7_best 44 = .ok (.if_icmp .ne 7, 3) := by decide +kernel
theorem dX7_best_47 : decode cX7_best 47 = .ok (.iconst 0, 1) := by decide +kernel
theorem dX7_best_48 : decode cX7_best 48 = .ok (.goto 5, 3) := by decide +kernel
theorem dX7_best_51 : decode cX7_best 51 = .ok (.ldc 161, 2) := by decide +kernel
theorem dX7_best_53 : decode cX7_best 53 = .ok (.iastore, 1) := by decide +kernel
theorem dX7_best_54 : decode cX7_best 54 = .ok (.aload_n 0, 1) := by decide +kernel
theorem dX7_best_55 : decode cX7_best 55 = .ok (.getfield 74, 3) := by decide +kernel
theorem dX7_best_58 : decode cX7_best 58 = .ok (.iload 4, 2) := by decide +kernel
theorem dX7_best_60 : decode cX7_best 60 = .ok (.iconst 0, 1) := by decide +kernel
theorem dX7_best_61 : decode cX7_best 61 = .ok (.iastore, 1) := by decide +kernel
theorem dX7_best_62 : decode cX7_best 62 = .ok (.iinc 4 1, 3) := by decide +kernel
theorem dX7_best_65 : decode cX7_best 65 = .ok (.goto (-43), 3) := by decide +kernel
theorem dX7_best_68 : decode cX7_best 68 = .ok (.iconst 1, 1) := by decide +kernel
theorem dX7_best_69 : decode cX7_best 69 = .ok (.istore 4, 2) := by decide +kernel
theorem dX7_best_71 : decode cX7_best 71 = .ok (.iload 4, 2) := by decide +kernel
theorem dX7_best_73 : decode cX7_best 73 = .ok (.ifCond .eq 100, 3) := by decide +kernel
theorem dX7_best_76 : decode cX7_best 76 = .ok (.iconst 0, 1) := by decide +kernel
theorem dX7_best_77 : decode cX7_best 77 = .ok (.istore 4, 2) := by decide +kernel
theorem dX7_best_79 : decode cX7_best 79 = .ok (.iconst 0, 1) := by decide +kernel
theorem dX7_best_80 : decode cX7_best 80 = .ok (.istore 5, 2) := by decide +kernel
theorem dX7_best_82 : decode cX7_best 82 = .ok (.iload 5, 2) := by decide +kernel
theorem dX7_best_84 : decode cX7_best 84 = .ok (.iconst 4, 1) := by decide +kernel
theorem dX7_best_85 : decode cX7_best 85 = .ok (.aload_n 0, 1) := by decide +kernel
theorem dX7_best_86 : decode cX7_best 86 = .ok (.getfield 83, 3) := by decide +kernel
theorem dX7_best_89 : decode cX7_best 89 = .ok (.imul, 1) := by decide +kernel
theorem dX7_best_90 : decode cX7_best 90 = .ok (.if_icmp .ge 80, 3) := by decide +kernel
theorem dX7_best_93 : decode cX7_best 93 = .ok (.iload 5, 2) := by decide +kernel
theorem dX7_best_95 : decode cX7_best 95 = .ok (.iconst 4, 1) := by decide +kernel
theorem dX7_best_96 : decode cX7_best 96 = .ok (.idiv, 1) := by decide +kernel
theorem dX7_best_97 : decode cX7_best 97 = .ok (.iload_n 3, 1) := by decide +kernel
theorem dX7_best_98 : decode cX7_best 98 = .ok (.if_icmp .ne 6, 3) := by decide +kernel
theorem dX7_best_101 : decode cX7_best 101 = .ok (.goto 63, 3) := by decide +kernel
theorem dX7_best_104 : decode cX7_best 104 = .ok (.aload_n 0, 1) := by decide +kernel
theorem dX7_best_105 : decode cX7_best 105 = .ok (.getfield 71, 3) := by decide +kernel
theorem dX7_best_108 : decode cX7_best 108 = .ok (.iload 5, 2) := by decide +kernel
theorem dX7_best_110 : decode cX7_best 110 = .ok (.iaload, 1) := by decide +kernel
theorem dX7_best_111 : decode cX7_best 111 = .ok (.istore 6, 2) := by decide +kernel
theorem dX7_best_113 : decode cX7_best 113 = .ok (.aload_n 0, 1) := by decide +kernel
theorem dX7_best_114 : decode cX7_best 114 = .ok (.getfield 74, 3) := by decide +kernel
theorem dX7_best_117 : decode cX7_best 117 = .ok (.iload 5, 2) := by decide +kernel
theorem dX7_best_119 : decode cX7_best 119 = .ok (.iaload, 1) := by decide +kernel
theorem dX7_best_120 : decode cX7_best 120 = .ok (.istore 7, 2) := by decide +kernel
theorem dX7_best_122 : decode cX7_best 122 = .ok (.aload_n 0, 1) := by decide +kernel
theorem dX7_best_123 : decode cX7_best 123 = .ok (.iload 5, 2) := by decide +kernel
theorem dX7_best_125 : decode cX7_best 125 = .ok (.invokevirtual 177, 3) := by decide +kernel
theorem dX7_best_128 : decode cX7_best 128 = .ok (.iload 4, 2) := by decide +kernel
theorem dX7_best_130 : decode cX7_best 130 = .ok (.ifCond .ne 27, 3) := by decide +kernel
theorem dX7_best_133 : decode cX7_best 133 = .ok (.aload_n 0, 1) := by decide +kernel
theorem dX7_best_134 : decode cX7_best 134 = .ok (.getfield 71, 3) := by decide +kernel
theorem dX7_best_137 : decode cX7_best 137 = .ok (.iload 5, 2) := by decide +kernel
theorem dX7_best_139 : decode cX7_best 139 = .ok (.iaload, 1) := by decide +kernel
theorem dX7_best_140 : decode cX7_best 140 = .ok (.iload 6, 2) := by decide +kernel
theorem dX7_best_142 : decode cX7_best 142 = .ok (.if_icmp .ne 15, 3) := by decide +kernel
theorem dX7_best_145 : decode cX7_best 145 = .ok (.aload_n 0, 1) := by decide +kernel
theorem dX7_best_146 : decode cX7_best 146 = .ok (.getfield 74, 3) := by decide +kernel
theorem dX7_best_149 : decode cX7_best 149 = .ok (.iload 5, 2) := by decide +kernel
theorem dX7_best_151 : decode cX7_best 151 = .ok (.iaload, 1) := by decide +kernel
theorem dX7_best_152 : decode cX7_best 152 = .ok (.iload 7, 2) := by decide +kernel
theorem dX7_best_154 : decode cX7_best 154 = .ok (.if_icmp .eq 7, 3) := by decide +kernel
theorem dX7_best_157 : decode cX7_best 157 = .ok (.iconst 1, 1) := by decide +kernel
theorem dX7_best_158 : decode cX7_best 158 = .ok (.goto 4, 3) := by decide +kernel
theorem dX7_best_161 : decode cX7_best 161 = .ok (.iconst 0, 1) := by decide +kernel
theorem dX7_best_162 : decode cX7_best 162 = .ok (.istore 4, 2) := by decide +kernel
theorem dX7_best_164 : decode cX7_best 164 = .ok (.iinc 5 1, 3) := by decide +kernel
theorem dX7_best_167 : decode cX7_best 167 = .ok (.goto (-85), 3) := by decide +kernel
theorem dX7_best_170 : decode cX7_best 170 = .ok (.goto (-99), 3) := by decide +kernel
theorem dX7_best_173 : decode cX7_best 173 = .ok (.iconst 4, 1) := by decide +kernel
theorem dX7_best_174 : decode cX7_best 174 = .ok (.iload_n 1, 1) := by decide +kernel
theorem dX7_best_175 : decode cX7_best 175 = .ok (.imul, 1) := by decide +kernel
theorem dX7_best_176 : decode cX7_best 176 = .ok (.iload_n 2, 1) := by decide +kernel
theorem dX7_best_177 : decode cX7_best 177 = .ok (.iadd, 1) := by decide +kernel
theorem dX7_best_178 : decode cX7_best 178 = .ok (.istore 5, 2) := by decide +kernel
theorem dX7_best_180 : decode cX7_best 180 = .ok (.aload_n 0, 1) := by decide +kernel
theorem dX7_best_181 : decode cX7_best 181 = .ok (.getfield 71, 3) := by decide +kernel
theorem dX7_best_184 : decode cX7_best 184 = .ok (.iload 5, 2) := by decide +kernel
theorem dX7_best_186 : decode cX7_best 186 = .ok (.iaload, 1) := by decide +kernel
theorem dX7_best_187 : decode cX7_best 187 = .ok (.ldc 161, 2) := by decide +kernel
theorem dX7_best_189 : decode cX7_best 189 = .ok (.if_icmp .ge 15, 3) := by decide +kernel
theorem dX7_best_192 : decode cX7_best 192 = .ok (.aload_n 0, 1) := by decide +kernel
theorem dX7_best_193 : decode cX7_best 193 = .ok (.getfield 74, 3) := by decide +kernel
theorem dX7_best_196 : decode cX7_best 196 = .ok (.iload 5, 2) := by decide +kernel
theorem dX7_best_198 : decode cX7_best 198 = .ok (.iaload, 1) := by decide +kernel
theorem dX7_best_199 : decode cX7_best 199 = .ok (.bipush 60, 2) := by decide +kernel
theorem dX7_best_201 : decode cX7_best 201 = .ok (.if_icmp .le 5, 3) := by decide +kernel
theorem dX7_best_204 : decode cX7_best 204 = .ok (.iconst (-1), 1) := by decide +kernel
theorem dX7_best_205 : decode cX7_best 205 = .ok (.ireturn, 1) := by decide +kernel
theorem dX7_best_206 : decode cX7_best 206 = .ok (.aload_n 0, 1) := by decide +kernel
theorem dX7_best_207 : decode cX7_best 207 = .ok (.getfield 71, 3) := by decide +kernel
theorem dX7_best_210 : decode cX7_best 210 = .ok (.iload 5, 2) := by decide +kernel
theorem dX7_best_212 : decode cX7_best 212 = .ok (.iaload, 1) := by decide +kernel
theorem dX7_best_213 : decode cX7_best 213 = .ok (.istore 6, 2) := by decide +kernel
theorem dX7_best_215 : decode cX7_best 215 = .ok (.aload_n 0, 1) := by decide +kernel
theorem dX7_best_216 : decode cX7_best 216 = .ok (.iconst 0, 1) := by decide +kernel
theorem dX7_best_217 : decode cX7_best 217 = .ok (.putfield 136, 3) := by decide +kernel
theorem dX7_best_220 : decode cX7_best 220 = .ok (.iload 5, 2) := by decide +kernel
theorem dX7_best_222 : decode cX7_best 222 = .ok (.iconst 4, 1) := by decide +kernel
theorem dX7_best_223 : decode cX7_best 223 = .ok (.idiv, 1) := by decide +kernel
theorem dX7_best_224 : decode cX7_best 224 = .ok (.iload_n 3, 1) := by decide +kernel
theorem dX7_best_225 : decode cX7_best 225 = .ok (.if_icmp .eq 115, 3) := by decide +kernel
theorem dX7_best_228 : decode cX7_best 228 = .ok (.aload_n 0, 1) := by decide +kernel
theorem dX7_best_229 : decode cX7_best 229 = .ok (.getfield 71, 3) := by decide +kernel
theorem dX7_best_232 : decode cX7_best 232 = .ok (.iload 5, 2) := by decide +kernel
theorem dX7_best_234 : decode cX7_best 234 = .ok (.iaload, 1) := by decide +kernel
theorem dX7_best_235 : decode cX7_best 235 = .ok (.istore 7, 2) := by decide +kernel
theorem dX7_best_237 : decode cX7_best 237 = .ok (.aload_n 0, 1) := by decide +kernel
theorem dX7_best_238 : decode cX7_best 238 = .ok (.getfield 74, 3) := by decide +kernel
theorem dX7_best_241 : decode cX7_best 241 = .ok (.iload 5, 2) := by decide +kernel
theorem dX7_best_243 : decode cX7_best 243 = .ok (.iaload, 1) := by decide +kernel
theorem dX7_best_244 : decode cX7_best 244 = .ok (.istore 8, 2) := by decide +kernel
theorem dX7_best_246 : decode cX7_best 246 = .ok (.aload_n 0, 1) := by decide +kernel
theorem dX7_best_247 : decode cX7_best 247 = .ok (.getfield 71, 3) := by decide +kernel
theorem dX7_best_250 : decode cX7_best 250 = .ok (.iload 5, 2) := by decide +kernel
theorem dX7_best_252 : decode cX7_best 252 = .ok (.ldc 161, 2) := by decide +kernel
theorem dX7_best_254 : decode cX7_best 254 = .ok (.iastore, 1) := by decide +kernel
theorem dX7_best_255 : decode cX7_best 255 = .ok (.aload_n 0, 1) := by decide +kernel
theorem dX7_best_256 : decode cX7_best 256 = .ok (.getfield 74, 3) := by decide +kernel
theorem dX7_best_259 : decode cX7_best 259 = .ok (.iload 5, 2) := by decide +kernel
theorem dX7_best_261 : decode cX7_best 261 = .ok (.iconst 0, 1) := by decide +kernel
theorem dX7_best_262 : decode cX7_best 262 = .ok (.iastore, 1) := by decide +kernel
theorem dX7_best_263 : decode cX7_best 263 = .ok (.aload_n 0, 1) := by decide +kernel
theorem dX7_best_264 : decode cX7_best 264 = .ok (.iload 5, 2) := by decide +kernel
theorem dX7_best_266 : decode cX7_best 266 = .ok (.iload 7, 2) := by decide +kernel
theorem dX7_best_268 : decode cX7_best 268 = .ok (.iload 8, 2) := by decide +kernel
theorem dX7_best_270 : decode cX7_best 270 = .ok (.invokevirtual 181, 3) := by decide +kernel
theorem dX7_best_273 : decode cX7_best 273 = .ok (.aload_n 0, 1) := by decide +kernel
theorem dX7_best_274 : decode cX7_best 274 = .ok (.getfield 26, 3) := by decide +kernel
theorem dX7_best_277 : decode cX7_best 277 = .ok (.aload_n 0, 1) := by decide +kernel
theorem dX7_best_278 : decode cX7_best 278 = .ok (.getfield 136, 3) := by decide +kernel
theorem dX7_best_281 : decode cX7_best 281 = .ok (.aload_n 0, 1) := by decide +kernel
theorem dX7_best_282 : decode cX7_best 282 = .ok (.getfield 77, 3) := by decide +kernel
theorem dX7_best_285 : decode cX7_best 285 = .ok (.iload 5, 2) := by decide +kernel
theorem dX7_best_287 : decode cX7_best 287 = .ok (.iaload, 1) := by decide +kernel
theorem dX7_best_288 : decode cX7_best 288 = .ok (.iastore, 1) := by decide +kernel
theorem dX7_best_289 : decode cX7_best 289 = .ok (.aload_n 0, 1) := by decide +kernel
theorem dX7_best_290 : decode cX7_best 290 = .ok (.getfield 29, 3) := by decide +kernel
theorem dX7_best_293 : decode cX7_best 293 = .ok (.aload_n 0, 1) := by decide +kernel
theorem dX7_best_294 : decode cX7_best 294 = .ok (.getfield 136, 3) := by decide +kernel
theorem dX7_best_297 : decode cX7_best 297 = .ok (.aload_n 0, 1) := by decide +kernel
theorem dX7_best_298 : decode cX7_best 298 = .ok (.getfield 80, 3) := by decide +kernel
theorem dX7_best_301 : decode cX7_best 301 = .ok (.iload 5, 2) := by decide +kernel
theorem dX7_best_303 : decode cX7_best 303 = .ok (.iaload, 1) := by decide +kernel
theorem dX7_best_304 : decode cX7_best 304 = .ok (.iastore, 1) := by decide +kernel
theorem dX7_best_305 : decode cX7_best 305 = .ok (.aload_n 0, 1) := by decide +kernel
theorem dX7_best_306 : decode cX7_best 306 = .ok (.dup, 1) := by decide +kernel
theorem dX7_best_307 : decode cX7_best 307 = .ok (.getfield 136, 3) := by decide +kernel
theorem dX7_best_310 : decode cX7_best 310 = .ok (.iconst 1, 1) := by decide +kernel
theorem dX7_best_311 : decode cX7_best 311 = .ok (.iadd, 1) := by decide +kernel
theorem dX7_best_312 : decode cX7_best 312 = .ok (.putfield 136, 3) := by decide +kernel
theorem dX7_best_315 : decode cX7_best 315 = .ok (.aload_n 0, 1) := by decide +kernel
theorem dX7_best_316 : decode cX7_best 316 = .ok (.iload 5, 2) := by decide +kernel
theorem dX7_best_318 : decode cX7_best 318 = .ok (.aload_n 0, 1) := by decide +kernel
theorem dX7_best_319 : decode cX7_best 319 = .ok (.getfield 77, 3) := by decide +kernel
theorem dX7_best_322 : decode cX7_best 322 = .ok (.iload 5, 2) := by decide +kernel
theorem dX7_best_324 : decode cX7_best 324 = .ok (.iaload, 1) := by decide +kernel
theorem dX7_best_325 : decode cX7_best 325 = .ok (.aload_n 0, 1) := by decide +kernel
theorem dX7_best_326 : decode cX7_best 326 = .ok (.getfield 80, 3) := by decide +kernel
theorem dX7_best_329 : decode cX7_best 329 = .ok (.iload 5, 2) := by decide +kernel
theorem dX7_best_331 : decode cX7_best 331 = .ok (.iaload, 1) := by decide +kernel
theorem dX7_best_332 : decode cX7_best 332 = .ok (.invokevirtual 185, 3) := by decide +kernel
theorem dX7_best_335 : decode cX7_best 335 = .ok (.istore 5, 2) := by decide +kernel
theorem dX7_best_337 : decode cX7_best 337 = .ok (.goto (-117), 3) := by decide +kernel
theorem dX7_best_340 : decode cX7_best 340 = .ok (.iload 6, 2) := by decide +kernel
theorem dX7_best_342 : decode cX7_best 342 = .ok (.ireturn, 1) := by decide +kernel
theorem dX7_offerAll_0 : decode cX7_offerAll 0 = .ok (.iconst 0, 1) := by decide +kernel
theorem dX7_offerAll_1 : decode cX7_offerAll 1 = .ok (.istore_n 2, 1) := by decide +kernel
theorem dX7_offerAll_2 : decode cX7_offerAll 2 = .ok (.iload_n 2, 1) := by decide +kernel
theorem dX7_offerAll_3 : decode cX7_offerAll 3 = .ok (.bipush 9, 2) := by decide +kernel
theorem dX7_offerAll_5 : decode cX7_offerAll 5 = .ok (.if_icmp .ge 101, 3) := by decide +kernel
theorem dX7_offerAll_8 : decode cX7_offerAll 8 = .ok (.iload_n 2, 1) := by decide +kernel
theorem dX7_offerAll_9 : decode cX7_offerAll 9 = .ok (.invokestatic 111, 3) := by decide +kernel
theorem dX7_offerAll_12 : decode cX7_offerAll 12 = .ok (.ifCond .le 7, 3) := by decide +kernel
theorem dX7_offerAll_15 : decode cX7_offerAll 15 = .ok (.iconst 1, 1) := by decide +kernel
theorem dX7_offerAll_16 : decode cX7_offerAll 16 = .ok (.goto 4, 3) := by decide +kernel
theorem dX7_offerAll_19 : decode cX7_offerAll 19 = .ok (.iconst 0, 1) := by decide +kernel
theorem dX7_offerAll_20 : decode cX7_offerAll 20 = .ok (.istore_n 3, 1) := by decide +kernel
theorem dX7_offerAll_21 : decode cX7_offerAll 21 = .ok (.iload_n 3, 1) := by decide +kernel
theorem dX7_offerAll_22 : decode cX7_offerAll 22 = .ok (.iload_n 2, 1) := by decide +kernel
theorem dX7_offerAll_23 : decode cX7_offerAll 23 = .ok (.invokestatic 111, 3) := by decide +kernel
theorem dX7_offerAll_26 : decode cX7_offerAll 26 = .ok (.if_icmp .gt 74, 3) := by decide +kernel
theorem dX7_offerAll_29 : decode cX7_offerAll 29 = .ok (.aload_n 0, 1) := by decide +kernel
theorem dX7_offerAll_30 : decode cX7_offerAll 30 = .ok (.iload_n 2, 1) := by decide +kernel
theorem dX7_offerAll_31 : decode cX7_offerAll 31 = .ok (.invokevirtual 162, 3) := by decide +kernel
theorem dX7_offerAll_34 : decode cX7_offerAll 34 = .ok (.ifCond .eq 66, 3) := by decide +kernel
theorem dX7_offerAll_37 : decode cX7_offerAll 37 = .ok (.aload_n 0, 1) := by decide +kernel
theorem dX7_offerAll_38 : decode cX7_offerAll 38 = .ok (.iload_n 1, 1) := by decide +kernel
theorem dX7_offerAll_39 : decode cX7_offerAll 39 = .ok (.iload_n 2, 1) := by decide +kernel
theorem dX7_offerAll_40 : decode cX7_offerAll 40 = .ok (.iload_n 3, 1) := by decide +kernel
theorem dX7_offerAll_41 : decode cX7_offerAll 41 = .ok (.invokevirtual 185, 3) := by decide +kernel
theorem dX7_offerAll_44 : decode cX7_offerAll 44 = .ok (.istore 4, 2) := by decide +kernel
theorem dX7_offerAll_46 : decode cX7_offerAll 46 = .ok (.iload 4, 2) := by decide +kernel
theorem dX7_offerAll_48 : decode cX7_offerAll 48 = .ok (.iconst (-1), 1) := by decide +kernel
theorem dX7_offerAll_49 : decode cX7_offerAll 49 = .ok (.if_icmp .eq 45, 3) := by decide +kernel
theorem dX7_offerAll_52 : decode cX7_offerAll 52 = .ok (.aload_n 0, 1) := by decide +kernel
theorem dX7_offerAll_53 : decode cX7_offerAll 53 = .ok (.getfield 71, 3) := by decide +kernel
theorem dX7_offerAll_56 : decode cX7_offerAll 56 = .ok (.iload 4, 2) := by decide +kernel
theorem dX7_offerAll_58 : decode cX7_offerAll 58 = .ok (.iaload, 1) := by decide +kernel
theorem dX7_offerAll_59 : decode cX7_offerAll 59 = .ok (.ldc 161, 2) := by decide +kernel
theorem dX7_offerAll_61 : decode cX7_offerAll 61 = .ok (.if_icmp .ge 33, 3) := by decide +kernel
theorem dX7_offerAll_64 : decode cX7_offerAll 64 = .ok (.aload_n 0, 1) := by decide +kernel
theorem dX7_offerAll_65 : decode cX7_offerAll 65 = .ok (.iload_n 1, 1) := by decide +kernel
theorem dX7_offerAll_66 : decode cX7_offerAll 66 = .ok (.aload_n 0, 1) := by decide +kernel
theorem dX7_offerAll_67 : decode cX7_offerAll 67 = .ok (.getfield 19, 3) := by decide +kernel
theorem dX7_offerAll_70 : decode cX7_offerAll 70 = .ok (.iload_n 2, 1) := by decide +kernel
theorem dX7_offerAll_71 : decode cX7_offerAll 71 = .ok (.iaload, 1) := by decide +kernel
theorem dX7_offerAll_72 : decode cX7_offerAll 72 = .ok (.aload_n 0, 1) := by decide +kernel
theorem dX7_offerAll_73 : decode cX7_offerAll 73 = .ok (.getfield 71, 3) := by decide +kernel
theorem dX7_offerAll_76 : decode cX7_offerAll 76 = .ok (.iload 4, 2) := by decide +kernel
theorem dX7_offerAll_78 : decode cX7_offerAll 78 = .ok (.iaload, 1) := by decide +kernel
theorem dX7_offerAll_79 : decode cX7_offerAll 79 = .ok (.iadd, 1) := by decide +kernel
theorem dX7_offerAll_80 : decode cX7_offerAll 80 = .ok (.iconst 1, 1) := by decide +kernel
theorem dX7_offerAll_81 : decode cX7_offerAll 81 = .ok (.aload_n 0, 1) := by decide +kernel
theorem dX7_offerAll_82 : decode cX7_offerAll 82 = .ok (.getfield 74, 3) := by decide +kernel
theorem dX7_offerAll_85 : decode cX7_offerAll 85 = .ok (.iload 4, 2) := by decide +kernel
theorem dX7_offerAll_87 : decode cX7_offerAll 87 = .ok (.iaload, 1) := by decide +kernel
theorem dX7_offerAll_88 : decode cX7_offerAll 88 = .ok (.iadd, 1) := by decide +kernel
theorem dX7_offerAll_89 : decode cX7_offerAll 89 = .ok (.iload_n 2, 1) := by decide +kernel
theorem dX7_offerAll_90 : decode cX7_offerAll 90 = .ok (.iload_n 3, 1) := by decide +kernel
theorem dX7_offerAll_91 : decode cX7_offerAll 91 = .ok (.invokevirtual 169, 3) := by decide +kernel
theorem dX7_offerAll_94 : decode cX7_offerAll 94 = .ok (.iinc 3 1, 3) := by decide +kernel
theorem dX7_offerAll_97 : decode cX7_offerAll 97 = .ok (.goto (-76), 3) := by decide +kernel
theorem dX7_offerAll_100 : decode cX7_offerAll 100 = .ok (.iinc 2 1, 3) := by decide +kernel
theorem dX7_offerAll_103 : decode cX7_offerAll 103 = .ok (.goto (-101), 3) := by decide +kernel
theorem dX7_offerAll_106 : decode cX7_offerAll 106 = .ok (.return_, 1) := by decide +kernel
theorem dX7_offerJust_0 : decode cX7_offerJust 0 = .ok (.iconst 0, 1) := by decide +kernel
theorem dX7_offerJust_1 : decode cX7_offerJust 1 = .ok (.istore 4, 2) := by decide +kernel
theorem dX7_offerJust_3 : decode cX7_offerJust 3 = .ok (.iload 4, 2) := by decide +kernel
theorem dX7_offerJust_5 : decode cX7_offerJust 5 = .ok (.bipush 9, 2) := by decide +kernel
theorem dX7_offerJust_7 : decode cX7_offerJust 7 = .ok (.if_icmp .ge 138, 3) := by decide +kernel
theorem dX7_offerJust_10 : decode cX7_offerJust 10 = .ok (.iload 4, 2) := by decide +kernel
theorem dX7_offerJust_12 : decode cX7_offerJust 12 = .ok (.invokestatic 111, 3) := by decide +kernel
theorem dX7_offerJust_15 : decode cX7_offerJust 15 = .ok (.ifCond .le 7, 3) := by decide +kernel
theorem dX7_offerJust_18 : decode cX7_offerJust 18 = .ok (.iconst 1, 1) := by decide +kernel
theorem dX7_offerJust_19 : decode cX7_offerJust 19 = .ok (.goto 4, 3) := by decide +kernel
theorem dX7_offerJust_22 : decode cX7_offerJust 22 = .ok (.iconst 0, 1) := by decide +kernel
theorem dX7_offerJust_23 : decode cX7_offerJust 23 = .ok (.istore 5, 2) := by decide +kernel
theorem dX7_offerJust_25 : decode cX7_offerJust 25 = .ok (.iload 5, 2) := by decide +kernel
theorem dX7_offerJust_27 : decode cX7_offerJust 27 = .ok (.iload 4, 2) := by decide +kernel
theorem dX7_offerJust_29 : decode cX7_offerJust 29 = .ok (.invokestatic 111, 3) := by decide +kernel
theorem dX7_offerJust_32 : decode cX7_offerJust 32 = .ok (.if_icmp .gt 107, 3) := by decide +kernel
theorem dX7_offerJust_35 : decode cX7_offerJust 35 = .ok (.aload_n 0, 1) := by decide +kernel
theorem dX7_offerJust_36 : decode cX7_offerJust 36 = .ok (.iload 4, 2) := by decide +kernel
theorem dX7_offerJust_38 : decode cX7_offerJust 38 = .ok (.invokevirtual 162, 3) := by decide +kernel
theorem dX7_offerJust_41 : decode cX7_offerJust 41 = .ok (.ifCond .eq 98, 3) := by decide +kernel
theorem dX7_offerJust_44 : decode cX7_offerJust 44 = .ok (.aload_n 0, 1) := by decide +kernel
theorem dX7_offerJust_45 : decode cX7_offerJust 45 = .ok (.iload_n 1, 1) := by decide +kernel
theorem dX7_offerJust_46 : decode cX7_offerJust 46 = .ok (.iload 4, 2) := by decide +kernel
theorem dX7_offerJust_48 : decode cX7_offerJust 48 = .ok (.iload 5, 2) := by decide +kernel
theorem dX7_offerJust_50 : decode cX7_offerJust 50 = .ok (.invokevirtual 185, 3) := by decide +kernel
theorem dX7_offerJust_53 : decode cX7_offerJust 53 = .ok (.istore 6, 2) := by decide +kernel
theorem dX7_offerJust_55 : decode cX7_offerJust 55 = .ok (.iload 6, 2) := by decide +kernel
theorem dX7_offerJust_57 : decode cX7_offerJust 57 = .ok (.iconst (-1), 1) := by decide +kernel
theorem dX7_offerJust_58 : decode cX7_offerJust 58 = .ok (.if_icmp .eq 75, 3) := by decide +kernel
theorem dX7_offerJust_61 : decode cX7_offerJust 61 = .ok (.iload 6, 2) := by decide +kernel
theorem dX7_offerJust_63 : decode cX7_offerJust 63 = .ok (.iload_n 1, 1) := by decide +kernel
theorem dX7_offerJust_64 : decode cX7_offerJust 64 = .ok (.if_icmp .eq 69, 3) := by decide +kernel
theorem dX7_offerJust_67 : decode cX7_offerJust 67 = .ok (.aload_n 0, 1) := by decide +kernel
theorem dX7_offerJust_68 : decode cX7_offerJust 68 = .ok (.getfield 19, 3) := by decide +kernel
theorem dX7_offerJust_71 : decode cX7_offerJust 71 = .ok (.iload 4, 2) := by decide +kernel
theorem dX7_offerJust_73 : decode cX7_offerJust 73 = .ok (.iaload, 1) := by decide +kernel
theorem dX7_offerJust_74 : decode cX7_offerJust 74 = .ok (.aload_n 0, 1) := by decide +kernel
theorem dX7_offerJust_75 : decode cX7_offerJust 75 = .ok (.getfield 71, 3) := by decide +kernel
theorem dX7_offerJust_78 : decode cX7_offerJust 78 = .ok (.iload 6, 2) := by decide +kernel
theorem dX7_offerJust_80 : decode cX7_offerJust 80 = .ok (.iaload, 1) := by decide +kernel
theorem dX7_offerJust_81 : decode cX7_offerJust 81 = .ok (.iadd, 1) := by decide +kernel
theorem dX7_offerJust_82 : decode cX7_offerJust 82 = .ok (.iload_n 2, 1) := by decide +kernel
theorem dX7_offerJust_83 : decode cX7_offerJust 83 = .ok (.if_icmp .ne 50, 3) := by decide +kernel
theorem dX7_offerJust_86 : decode cX7_offerJust 86 = .ok (.iconst 1, 1) := by decide +kernel
theorem dX7_offerJust_87 : decode cX7_offerJust 87 = .ok (.aload_n 0, 1) := by decide +kernel
theorem dX7_offerJust_88 : decode cX7_offerJust 88 = .ok (.getfield 74, 3) := by decide +kernel
theorem dX7_offerJust_91 : decode cX7_offerJust 91 = .ok (.iload 6, 2) := by decide +kernel
theorem dX7_offerJust_93 : decode cX7_offerJust 93 = .ok (.iaload, 1) := by decide +kernel
theorem dX7_offerJust_94 : decode cX7_offerJust 94 = .ok (.iadd, 1) := by decide +kernel
theorem dX7_offerJust_95 : decode cX7_offerJust 95 = .ok (.iload_n 3, 1) := by decide +kernel
theorem dX7_offerJust_96 : decode cX7_offerJust 96 = .ok (.if_icmp .eq 6, 3) := by decide +kernel
theorem dX7_offerJust_99 : decode cX7_offerJust 99 = .ok (.goto 34, 3) := by decide +kernel
theorem dX7_offerJust_102 : decode cX7_offerJust 102 = .ok (.aload_n 0, 1) := by decide +kernel
theorem dX7_offerJust_103 : decode cX7_offerJust 103 = .ok (.getfield 71, 3) := by decide +kernel
theorem dX7_offerJust_106 : decode cX7_offerJust 106 = .ok (.iload_n 1, 1) := by decide +kernel
theorem dX7_offerJust_107 : decode cX7_offerJust 107 = .ok (.iload_n 2, 1) := by decide +kernel
theorem dX7_offerJust_108 : decode cX7_offerJust 108 = .ok (.iastore, 1) := by decide +kernel
theorem dX7_offerJust_109 : decode cX7_offerJust 109 = .ok (.aload_n 0, 1) := by decide +kernel
theorem dX7_offerJust_110 : decode cX7_offerJust 110 = .ok (.getfield 74, 3) := by decide +kernel
theorem dX7_offerJust_113 : decode cX7_offerJust 113 = .ok (.iload_n 1, 1) := by decide +kernel
theorem dX7_offerJust_114 : decode cX7_offerJust 114 = .ok (.iload_n 3, 1) := by decide +kernel
theorem dX7_offerJust_115 : decode cX7_offerJust 115 = .ok (.iastore, 1) := by decide +kernel
theorem dX7_offerJust_116 : decode cX7_offerJust 116 = .ok (.aload_n 0, 1) := by decide +kernel
theorem dX7_offerJust_117 : decode cX7_offerJust 117 = .ok (.getfield 77, 3) := by decide +kernel
theorem dX7_offerJust_120 : decode cX7_offerJust 120 = .ok (.iload_n 1, 1) := by decide +kernel
theorem dX7_offerJust_121 : decode cX7_offerJust 121 = .ok (.iload 4, 2) := by decide +kernel
theorem dX7_offerJust_123 : decode cX7_offerJust 123 = .ok (.iastore, 1) := by decide +kernel
theorem dX7_offerJust_124 : decode cX7_offerJust 124 = .ok (.aload_n 0, 1) := by decide +kernel
theorem dX7_offerJust_125 : decode cX7_offerJust 125 = .ok (.getfield 80, 3) := by decide +kernel
theorem dX7_offerJust_128 : decode cX7_offerJust 128 = .ok (.iload_n 1, 1) := by decide +kernel
theorem dX7_offerJust_129 : decode cX7_offerJust 129 = .ok (.iload 5, 2) := by decide +kernel
theorem dX7_offerJust_131 : decode cX7_offerJust 131 = .ok (.iastore, 1) := by decide +kernel
theorem dX7_offerJust_132 : decode cX7_offerJust 132 = .ok (.return_, 1) := by decide +kernel
theorem dX7_offerJust_133 : decode cX7_offerJust 133 = .ok (.iinc 5 1, 3) := by decide +kernel
theorem dX7_offerJust_136 : decode cX7_offerJust 136 = .ok (.goto (-111), 3) := by decide +kernel
theorem dX7_offerJust_139 : decode cX7_offerJust 139 = .ok (.iinc 4 1, 3) := by decide +kernel
theorem dX7_offerJust_142 : decode cX7_offerJust 142 = .ok (.goto (-139), 3) := by decide +kernel
theorem dX7_offerJust_145 : decode cX7_offerJust 145 = .ok (.return_, 1) := by decide +kernel
theorem dX7_keep_0 : decode cX7_keep 0 = .ok (.aload_n 0, 1) := by decide +kernel
theorem dX7_keep_1 : decode cX7_keep 1 = .ok (.getfield 104, 3) := by decide +kernel
theorem dX7_keep_4 : decode cX7_keep 4 = .ok (.ifCond .eq 12, 3) := by decide +kernel
theorem dX7_keep_7 : decode cX7_keep 7 = .ok (.aload_n 0, 1) := by decide +kernel
theorem dX7_keep_8 : decode cX7_keep 8 = .ok (.getfield 188, 3) := by decide +kernel
theorem dX7_keep_11 : decode cX7_keep 11 = .ok (.bipush 8, 2) := by decide +kernel
theorem dX7_keep_13 : decode cX7_keep 13 = .ok (.if_icmp .ne 5, 3) := by decide +kernel
theorem dX7_keep_16 : decode cX7_keep 16 = .ok (.iconst (-1), 1) := by decide +kernel
theorem dX7_keep_17 : decode cX7_keep 17 = .ok (.ireturn, 1) := by decide +kernel
theorem dX7_keep_18 : decode cX7_keep 18 = .ok (.aload_n 0, 1) := by decide +kernel
theorem dX7_keep_19 : decode cX7_keep 19 = .ok (.getfield 38, 3) := by decide +kernel
theorem dX7_keep_22 : decode cX7_keep 22 = .ok (.aload_n 0, 1) := by decide +kernel
theorem dX7_keep_23 : decode cX7_keep 23 = .ok (.getfield 188, 3) := by decide +kernel
theorem dX7_keep_26 : decode cX7_keep 26 = .ok (.aload_n 0, 1) := by decide +kernel
theorem dX7_keep_27 : decode cX7_keep 27 = .ok (.getfield 98, 3) := by decide +kernel
theorem dX7_keep_30 : decode cX7_keep 30 = .ok (.iastore, 1) := by decide +kernel
theorem dX7_keep_31 : decode cX7_keep 31 = .ok (.aload_n 0, 1) := by decide +kernel
theorem dX7_keep_32 : decode cX7_keep 32 = .ok (.getfield 41, 3) := by decide +kernel
theorem dX7_keep_35 : decode cX7_keep 35 = .ok (.aload_n 0, 1) := by decide +kernel
theorem dX7_keep_36 : decode cX7_keep 36 = .ok (.getfield 188, 3) := by decide +kernel
theorem dX7_keep_39 : decode cX7_keep 39 = .ok (.aload_n 0, 1) := by decide +kernel
theorem dX7_keep_40 : decode cX7_keep 40 = .ok (.getfield 154, 3) := by decide +kernel
theorem dX7_keep_43 : decode cX7_keep 43 = .ok (.iastore, 1) := by decide +kernel
theorem dX7_keep_44 : decode cX7_keep 44 = .ok (.aload_n 0, 1) := by decide +kernel
theorem dX7_keep_45 : decode cX7_keep 45 = .ok (.getfield 47, 3) := by decide +kernel
theorem dX7_keep_48 : decode cX7_keep 48 = .ok (.aload_n 0, 1) := by decide +kernel
theorem dX7_keep_49 : decode cX7_keep 49 = .ok (.getfield 188, 3) := by decide +kernel
theorem dX7_keep_52 : decode cX7_keep 52 = .ok (.aload_n 0, 1) := by decide +kernel
theorem dX7_keep_53 : decode cX7_keep 53 = .ok (.getfield 101, 3) := by decide +kernel
theorem dX7_keep_56 : decode cX7_keep 56 = .ok (.iastore, 1) := by decide +kernel
theorem dX7_keep_57 : decode cX7_keep 57 = .ok (.iconst 0, 1) := by decide +kernel
theorem dX7_keep_58 : decode cX7_keep 58 = .ok (.istore_n 1, 1) := by decide +kernel
theorem dX7_keep_59 : decode cX7_keep 59 = .ok (.iload_n 1, 1) := by decide +kernel
theorem dX7_keep_60 : decode cX7_keep 60 = .ok (.aload_n 0, 1) := by decide +kernel
theorem dX7_keep_61 : decode cX7_keep 61 = .ok (.getfield 101, 3) := by decide +kernel
theorem dX7_keep_64 : decode cX7_keep 64 = .ok (.if_icmp .ge 29, 3) := by decide +kernel
theorem dX7_keep_67 : decode cX7_keep 67 = .ok (.aload_n 0, 1) := by decide +kernel
theorem dX7_keep_68 : decode cX7_keep 68 = .ok (.getfield 44, 3) := by decide +kernel
theorem dX7_keep_71 : decode cX7_keep 71 = .ok (.bipush 30, 2) := by decide +kernel
theorem dX7_keep_73 : decode cX7_keep 73 = .ok (.aload_n 0, 1) := by decide +kernel
theorem dX7_keep_74 : decode cX7_keep 74 = .ok (.getfield 188, 3) := by decide +kernel
theorem dX7_keep_77 : decode cX7_keep 77 = .ok (.imul, 1) := by decide +kernel
theorem dX7_keep_78 : decode cX7_keep 78 = .ok (.iload_n 1, 1) := by decide +kernel
theorem dX7_keep_79 : decode cX7_keep 79 = .ok (.iadd, 1) := by decide +kernel
theorem dX7_keep_80 : decode cX7_keep 80 = .ok (.aload_n 0, 1) := by decide +kernel
theorem dX7_keep_81 : decode cX7_keep 81 = .ok (.getfield 32, 3) := by decide +kernel
theorem dX7_keep_84 : decode cX7_keep 84 = .ok (.iload_n 1, 1) := by decide +kernel
theorem dX7_keep_85 : decode cX7_keep 85 = .ok (.iaload, 1) := by decide +kernel
theorem dX7_keep_86 : decode cX7_keep 86 = .ok (.iastore, 1) := by decide +kernel
theorem dX7_keep_87 : decode cX7_keep 87 = .ok (.iinc 1 1, 3) := by decide +kernel
theorem dX7_keep_90 : decode cX7_keep 90 = .ok (.goto (-31), 3) := by decide +kernel
theorem dX7_keep_93 : decode cX7_keep 93 = .ok (.aload_n 0, 1) := by decide +kernel
theorem dX7_keep_94 : decode cX7_keep 94 = .ok (.getfield 56, 3) := by decide +kernel
theorem dX7_keep_97 : decode cX7_keep 97 = .ok (.aload_n 0, 1) := by decide +kernel
theorem dX7_keep_98 : decode cX7_keep 98 = .ok (.getfield 188, 3) := by decide +kernel
theorem dX7_keep_101 : decode cX7_keep 101 = .ok (.aload_n 0, 1) := by decide +kernel
theorem dX7_keep_102 : decode cX7_keep 102 = .ok (.getfield 136, 3) := by decide +kernel
theorem dX7_keep_105 : decode cX7_keep 105 = .ok (.iastore, 1) := by decide +kernel
theorem dX7_keep_106 : decode cX7_keep 106 = .ok (.iconst 0, 1) := by decide +kernel
theorem dX7_keep_107 : decode cX7_keep 107 = .ok (.istore_n 1, 1) := by decide +kernel
theorem dX7_keep_108 : decode cX7_keep 108 = .ok (.iload_n 1, 1) := by decide +kernel
theorem dX7_keep_109 : decode cX7_keep 109 = .ok (.aload_n 0, 1) := by decide +kernel
theorem dX7_keep_110 : decode cX7_keep 110 = .ok (.getfield 136, 3) := by decide +kernel
theorem dX7_keep_113 : decode cX7_keep 113 = .ok (.if_icmp .ge 49, 3) := by decide +kernel
theorem dX7_keep_116 : decode cX7_keep 116 = .ok (.aload_n 0, 1) := by decide +kernel
theorem dX7_keep_117 : decode cX7_keep 117 = .ok (.getfield 50, 3) := by decide +kernel
theorem dX7_keep_120 : decode cX7_keep 120 = .ok (.bipush 60, 2) := by decide +kernel
theorem dX7_keep_122 : decode cX7_keep 122 = .ok (.aload_n 0, 1) := by decide +kernel
theorem dX7_keep_123 : decode cX7_keep 123 = .ok (.getfield 188, 3) := by decide +kernel
theorem dX7_keep_126 : decode cX7_keep 126 = .ok (.imul, 1) := by decide +kernel
theorem dX7_keep_127 : decode cX7_keep 127 = .ok (.iload_n 1, 1) := by decide +kernel
theorem dX7_keep_128 : decode cX7_keep 128 = .ok (.iadd, 1) := by decide +kernel
theorem dX7_keep_129 : decode cX7_keep 129 = .ok (.aload_n 0, 1) := by decide +kernel
theorem dX7_keep_130 : decode cX7_keep 130 = .ok (.getfield 26, 3) := by decide +kernel
theorem dX7_keep_133 : decode cX7_keep 133 = .ok (.iload_n 1, 1) := by decide +kernel
theorem dX7_keep_134 : decode cX7_keep 134 = .ok (.iaload, 1) := by decide +kernel
theorem dX7_keep_135 : decode cX7_keep 135 = .ok (.iastore, 1) := by decide +kernel
theorem dX7_keep_136 : decode cX7_keep 136 = .ok (.aload_n 0, 1) := by decide +kernel
theorem dX7_keep_137 : decode cX7_keep 137 = .ok (.getfield 53, 3) := by decide +kernel
theorem dX7_keep_140 : decode cX7_keep 140 = .ok (.bipush 60, 2) := by decide +kernel
theorem dX7_keep_142 : decode cX7_keep 142 = .ok (.aload_n 0, 1) := by decide +kernel
theorem dX7_keep_143 : decode cX7_keep 143 = .ok (.getfield 188, 3) := by decide +kernel
theorem dX7_keep_146 : decode cX7_keep 146 = .ok (.imul, 1) := by decide +kernel
theorem dX7_keep_147 : decode cX7_keep 147 = .ok (.iload_n 1, 1) := by decide +kernel
theorem dX7_keep_148 : decode cX7_keep 148 = .ok (.iadd, 1) := by decide +kernel
theorem dX7_keep_149 : decode cX7_keep 149 = .ok (.aload_n 0, 1) := by decide +kernel
theorem dX7_keep_150 : decode cX7_keep 150 = .ok (.getfield 29, 3) := by decide +kernel
theorem dX7_keep_153 : decode cX7_keep 153 = .ok (.iload_n 1, 1) := by decide +kernel
theorem dX7_keep_154 : decode cX7_keep 154 = .ok (.iaload, 1) := by decide +kernel
theorem dX7_keep_155 : decode cX7_keep 155 = .ok (.iastore, 1) := by decide +kernel
theorem dX7_keep_156 : decode cX7_keep 156 = .ok (.iinc 1 1, 3) := by decide +kernel
theorem dX7_keep_159 : decode cX7_keep 159 = .ok (.goto (-51), 3) := by decide +kernel
theorem dX7_keep_162 : decode cX7_keep 162 = .ok (.aload_n 0, 1) := by decide +kernel
theorem dX7_keep_163 : decode cX7_keep 163 = .ok (.dup, 1) := by decide +kernel
theorem dX7_keep_164 : decode cX7_keep 164 = .ok (.getfield 188, 3) := by decide +kernel
theorem dX7_keep_167 : decode cX7_keep 167 = .ok (.iconst 1, 1) := by decide +kernel
theorem dX7_keep_168 : decode cX7_keep 168 = .ok (.iadd, 1) := by decide +kernel
theorem dX7_keep_169 : decode cX7_keep 169 = .ok (.putfield 188, 3) := by decide +kernel
theorem dX7_keep_172 : decode cX7_keep 172 = .ok (.aload_n 0, 1) := by decide +kernel
theorem dX7_keep_173 : decode cX7_keep 173 = .ok (.getfield 188, 3) := by decide +kernel
theorem dX7_keep_176 : decode cX7_keep 176 = .ok (.iconst 1, 1) := by decide +kernel
theorem dX7_keep_177 : decode cX7_keep 177 = .ok (.isub, 1) := by decide +kernel
theorem dX7_keep_178 : decode cX7_keep 178 = .ok (.ireturn, 1) := by decide +kernel
theorem dX7_still_0 : decode cX7_still 0 = .ok (.iload_n 1, 1) := by decide +kernel
theorem dX7_still_1 : decode cX7_still 1 = .ok (.iconst 0, 1) := by decide +kernel
theorem dX7_still_2 : decode cX7_still 2 = .ok (.aload_n 0, 1) := by decide +kernel
theorem dX7_still_3 : decode cX7_still 3 = .ok (.getfield 188, 3) := by decide +kernel
theorem dX7_still_6 : decode cX7_still 6 = .ok (.iconst 1, 1) := by decide +kernel
theorem dX7_still_7 : decode cX7_still 7 = .ok (.isub, 1) := by decide +kernel
theorem dX7_still_8 : decode cX7_still 8 = .ok (.invokestatic 86, 3) := by decide +kernel
theorem dX7_still_11 : decode cX7_still 11 = .ok (.ifCond .ne 5, 3) := by decide +kernel
theorem dX7_still_14 : decode cX7_still 14 = .ok (.iconst (-1), 1) := by decide +kernel
theorem dX7_still_15 : decode cX7_still 15 = .ok (.ireturn, 1) := by decide +kernel
theorem dX7_still_16 : decode cX7_still 16 = .ok (.aload_n 0, 1) := by decide +kernel
theorem dX7_still_17 : decode cX7_still 17 = .ok (.aload_n 0, 1) := by decide +kernel
theorem dX7_still_18 : decode cX7_still 18 = .ok (.getfield 38, 3) := by decide +kernel
theorem dX7_still_21 : decode cX7_still 21 = .ok (.iload_n 1, 1) := by decide +kernel
theorem dX7_still_22 : decode cX7_still 22 = .ok (.iaload, 1) := by decide +kernel
theorem dX7_still_23 : decode cX7_still 23 = .ok (.aload_n 0, 1) := by decide +kernel
theorem dX7_still_24 : decode cX7_still 24 = .ok (.getfield 41, 3) := by decide +kernel
theorem dX7_still_27 : decode cX7_still 27 = .ok (.iload_n 1, 1) := by decide +kernel
theorem dX7_still_28 : decode cX7_still 28 = .ok (.iaload, 1) := by decide +kernel
theorem dX7_still_29 : decode cX7_still 29 = .ok (.aload_n 0, 1) := by decide +kernel
theorem dX7_still_30 : decode cX7_still 30 = .ok (.getfield 44, 3) := by decide +kernel
theorem dX7_still_33 : decode cX7_still 33 = .ok (.bipush 30, 2) := by decide +kernel
theorem dX7_still_35 : decode cX7_still 35 = .ok (.iload_n 1, 1) := by decide +kernel
theorem dX7_still_36 : decode cX7_still 36 = .ok (.imul, 1) := by decide +kernel
theorem dX7_still_37 : decode cX7_still 37 = .ok (.aload_n 0, 1) := by decide +kernel
theorem dX7_still_38 : decode cX7_still 38 = .ok (.getfield 47, 3) := by decide +kernel
theorem dX7_still_41 : decode cX7_still 41 = .ok (.iload_n 1, 1) := by decide +kernel
theorem dX7_still_42 : decode cX7_still 42 = .ok (.iaload, 1) := by decide +kernel
theorem dX7_still_43 : decode cX7_still 43 = .ok (.aload_n 0, 1) := by decide +kernel
theorem dX7_still_44 : decode cX7_still 44 = .ok (.getfield 50, 3) := by decide +kernel
theorem dX7_still_47 : decode cX7_still 47 = .ok (.aload_n 0, 1) := by decide +kernel
theorem dX7_still_48 : decode cX7_still 48 = .ok (.getfield 53, 3) := by decide +kernel
theorem dX7_still_51 : decode cX7_still 51 = .ok (.bipush 60, 2) := by decide +kernel
theorem dX7_still_53 : decode cX7_still 53 = .ok (.iload_n 1, 1) := by decide +kernel
theorem dX7_still_54 : decode cX7_still 54 = .ok (.imul, 1) := by decide +kernel
theorem dX7_still_55 : decode cX7_still 55 = .ok (.aload_n 0, 1) := by decide +kernel
theorem dX7_still_56 : decode cX7_still 56 = .ok (.getfield 56, 3) := by decide +kernel
theorem dX7_still_59 : decode cX7_still 59 = .ok (.iload_n 1, 1) := by decide +kernel
theorem dX7_still_60 : decode cX7_still 60 = .ok (.iaload, 1) := by decide +kernel
theorem dX7_still_61 : decode cX7_still 61 = .ok (.invokevirtual 173, 3) := by decide +kernel
theorem dX7_still_64 : decode cX7_still 64 = .ok (.ifCond .eq 7, 3) := by decide +kernel
theorem dX7_still_67 : decode cX7_still 67 = .ok (.iconst 1, 1) := by decide +kernel
theorem dX7_still_68 : decode cX7_still 68 = .ok (.goto 4, 3) := by decide +kernel
theorem dX7_still_71 : decode cX7_still 71 = .ok (.iconst 0, 1) := by decide +kernel
theorem dX7_still_72 : decode cX7_still 72 = .ok (.ireturn, 1) := by decide +kernel
theorem dX7_count_0 : decode cX7_count 0 = .ok (.iconst 0, 1) := by decide +kernel
theorem dX7_count_1 : decode cX7_count 1 = .ok (.istore_n 2, 1) := by decide +kernel
theorem dX7_count_2 : decode cX7_count 2 = .ok (.iload_n 1, 1) := by decide +kernel
theorem dX7_count_3 : decode cX7_count 3 = .ok (.tableswitch 122 0 5 #[37, 42, 75, 80, 85, 117], 37) := by decide +kernel
theorem dX7_count_40 : decode cX7_count 40 = .ok (.aload_n 0, 1) := by decide +kernel
theorem dX7_count_41 : decode cX7_count 41 = .ok (.getfield 83, 3) := by decide +kernel
theorem dX7_count_44 : decode cX7_count 44 = .ok (.ireturn, 1) := by decide +kernel
theorem dX7_count_45 : decode cX7_count 45 = .ok (.iconst 0, 1) := by decide +kernel
theorem dX7_count_46 : decode cX7_count 46 = .ok (.istore_n 3, 1) := by decide +kernel
theorem dX7_count_47 : decode cX7_count 47 = .ok (.iload_n 3, 1) := by decide +kernel
theorem dX7_count_48 : decode cX7_count 48 = .ok (.iconst 4, 1) := by decide +kernel
theorem dX7_count_49 : decode cX7_count 49 = .ok (.aload_n 0, 1) := by decide +kernel
theorem dX7_count_50 : decode cX7_count 50 = .ok (.getfield 83, 3) := by decide +kernel
theorem dX7_count_53 : decode cX7_count 53 = .ok (.imul, 1) := by decide +kernel
theorem dX7_count_54 : decode cX7_count 54 = .ok (.if_icmp .ge 22, 3) := by decide +kernel
theorem dX7_count_57 : decode cX7_count 57 = .ok (.aload_n 0, 1) := by decide +kernel
theorem dX7_count_58 : decode cX7_count 58 = .ok (.getfield 13, 3) := by decide +kernel
theorem dX7_count_61 : decode cX7_count 61 = .ok (.iload_n 3, 1) := by decide +kernel
theorem dX7_count_62 : decode cX7_count 62 = .ok (.iaload, 1) := by decide +kernel
theorem dX7_count_63 : decode cX7_count 63 = .ok (.iload_n 3, 1) := by decide +kernel
theorem dX7_count_64 : decode cX7_count 64 = .ok (.if_icmp .le 6, 3) := by decide +kernel
theorem dX7_count_67 : decode cX7_count 67 = .ok (.iinc 2 1, 3) := by decide +kernel
theorem dX7_count_70 : decode cX7_count 70 = .ok (.iinc 3 1, 3) := by decide +kernel
theorem dX7_count_73 : decode cX7_count 73 = .ok (.goto (-26), 3) := by decide +kernel
theorem dX7_count_76 : decode cX7_count 76 = .ok (.iload_n 2, 1) := by decide +kernel
theorem dX7_count_77 : decode cX7_count 77 = .ok (.ireturn, 1) := by decide +kernel
theorem dX7_count_78 : decode cX7_count 78 = .ok (.aload_n 0, 1) := by decide +kernel
theorem dX7_count_79 : decode cX7_count 79 = .ok (.getfield 136, 3) := by decide +kernel
theorem dX7_count_82 : decode cX7_count 82 = .ok (.ireturn, 1) := by decide +kernel
theorem dX7_count_83 : decode cX7_count 83 = .ok (.aload_n 0, 1) := by decide +kernel
theorem dX7_count_84 : decode cX7_count 84 = .ok (.getfield 188, 3) := by decide +kernel
theorem dX7_count_87 : decode cX7_count 87 = .ok (.ireturn, 1) := by decide +kernel
theorem dX7_count_88 : decode cX7_count 88 = .ok (.iconst 0, 1) := by decide +kernel
theorem dX7_count_89 : decode cX7_count 89 = .ok (.istore_n 3, 1) := by decide +kernel
theorem dX7_count_90 : decode cX7_count 90 = .ok (.iload_n 3, 1) := by decide +kernel
theorem dX7_count_91 : decode cX7_count 91 = .ok (.aload_n 0, 1) := by decide +kernel
theorem dX7_count_92 : decode cX7_count 92 = .ok (.getfield 136, 3) := by decide +kernel
theorem dX7_count_95 : decode cX7_count 95 = .ok (.if_icmp .ge 23, 3) := by decide +kernel
theorem dX7_count_98 : decode cX7_count 98 = .ok (.iload_n 2, 1) := by decide +kernel
theorem dX7_count_99 : decode cX7_count 99 = .ok (.aload_n 0, 1) := by decide +kernel
theorem dX7_count_100 : decode cX7_count 100 = .ok (.getfield 19, 3) := by decide +kernel
theorem dX7_count_103 : decode cX7_count 103 = .ok (.aload_n 0, 1) := by decide +kernel
theorem dX7_count_104 : decode cX7_count 104 = .ok (.getfield 26, 3) := by decide +kernel
theorem dX7_count_107 : decode cX7_count 107 = .ok (.iload_n 3, 1) := by decide +kernel
theorem dX7_count_108 : decode cX7_count 108 = .ok (.iaload, 1) := by decide +kernel
theorem dX7_count_109 : decode cX7_count 109 = .ok (.iaload, 1) := by decide +kernel
theorem dX7_count_110 : decode cX7_count 110 = .ok (.iadd, 1) := by decide +kernel
theorem dX7_count_111 : decode cX7_count 111 = .ok (.istore_n 2, 1) := by decide +kernel
theorem dX7_count_112 : decode cX7_count 112 = .ok (.iinc 3 1, 3) := by decide +kernel
theorem dX7_count_115 : decode cX7_count 115 = .ok (.goto (-25), 3) := by decide +kernel
theorem dX7_count_118 : decode cX7_count 118 = .ok (.iload_n 2, 1) := by decide +kernel
theorem dX7_count_119 : decode cX7_count 119 = .ok (.ireturn, 1) := by decide +kernel
theorem dX7_count_120 : decode cX7_count 120 = .ok (.aload_n 0, 1) := by decide +kernel
theorem dX7_count_121 : decode cX7_count 121 = .ok (.getfield 22, 3) := by decide +kernel
theorem dX7_count_124 : decode cX7_count 124 = .ok (.ireturn, 1) := by decide +kernel
theorem dX7_count_125 : decode cX7_count 125 = .ok (.iconst (-1), 1) := by decide +kernel
theorem dX7_count_126 : decode cX7_count 126 = .ok (.ireturn, 1) := by decide +kernel
