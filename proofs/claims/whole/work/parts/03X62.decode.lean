theorem dX6_numbers_18 : decode cX6_numbers 18 = .ok (.iload 4, 2) := by decide +kernel
theorem dX6_numbers_20 : decode cX6_numbers 20 = .ok (.idiv, 1) := by decide +kernel
theorem dX6_numbers_21 : decode cX6_numbers 21 = .ok (.iload_n 3, 1) := by decide +kernel
theorem dX6_numbers_22 : decode cX6_numbers 22 = .ok (.isub, 1) := by decide +kernel
theorem dX6_numbers_23 : decode cX6_numbers 23 = .ok (.iastore, 1) := by decide +kernel
theorem dX6_numbers_24 : decode cX6_numbers 24 = .ok (.aload_n 0, 1) := by decide +kernel
theorem dX6_numbers_25 : decode cX6_numbers 25 = .ok (.getfield 28, 3) := by decide +kernel
theorem dX6_numbers_28 : decode cX6_numbers 28 = .ok (.iconst 3, 1) := by decide +kernel
theorem dX6_numbers_29 : decode cX6_numbers 29 = .ok (.iload_n 1, 1) := by decide +kernel
theorem dX6_numbers_30 : decode cX6_numbers 30 = .ok (.imul, 1) := by decide +kernel
theorem dX6_numbers_31 : decode cX6_numbers 31 = .ok (.iconst 1, 1) := by decide +kernel
theorem dX6_numbers_32 : decode cX6_numbers 32 = .ok (.iadd, 1) := by decide +kernel
theorem dX6_numbers_33 : decode cX6_numbers 33 = .ok (.iload_n 2, 1) := by decide +kernel
theorem dX6_numbers_34 : decode cX6_numbers 34 = .ok (.iload 4, 2) := by decide +kernel
theorem dX6_numbers_36 : decode cX6_numbers 36 = .ok (.idiv, 1) := by decide +kernel
theorem dX6_numbers_37 : decode cX6_numbers 37 = .ok (.iload 4, 2) := by decide +kernel
theorem dX6_numbers_39 : decode cX6_numbers 39 = .ok (.irem, 1) := by decide +kernel
theorem dX6_numbers_40 : decode cX6_numbers 40 = .ok (.iload_n 3, 1) := by decide +kernel
theorem dX6_numbers_41 : decode cX6_numbers 41 = .ok (.isub, 1) := by decide +kernel
theorem dX6_numbers_42 : decode cX6_numbers 42 = .ok (.iastore, 1) := by decide +kernel
theorem dX6_numbers_43 : decode cX6_numbers 43 = .ok (.aload_n 0, 1) := by decide +kernel
theorem dX6_numbers_44 : decode cX6_numbers 44 = .ok (.getfield 28, 3) := by decide +kernel
theorem dX6_numbers_47 : decode cX6_numbers 47 = .ok (.iconst 3, 1) := by decide +kernel
theorem dX6_numbers_48 : decode cX6_numbers 48 = .ok (.iload_n 1, 1) := by decide +kernel
theorem dX6_numbers_49 : decode cX6_numbers 49 = .ok (.imul, 1) := by decide +kernel
theorem dX6_numbers_50 : decode cX6_numbers 50 = .ok (.iconst 2, 1) := by decide +kernel
theorem dX6_numbers_51 : decode cX6_numbers 51 = .ok (.iadd, 1) := by decide +kernel
theorem dX6_numbers_52 : decode cX6_numbers 52 = .ok (.iload_n 2, 1) := by decide +kernel
theorem dX6_numbers_53 : decode cX6_numbers 53 = .ok (.iload 4, 2) := by decide +kernel
theorem dX6_numbers_55 : decode cX6_numbers 55 = .ok (.irem, 1) := by decide +kernel
theorem dX6_numbers_56 : decode cX6_numbers 56 = .ok (.iload_n 3, 1) := by decide +kernel
theorem dX6_numbers_57 : decode cX6_numbers 57 = .ok (.isub, 1) := by decide +kernel
theorem dX6_numbers_58 : decode cX6_numbers 58 = .ok (.iastore, 1) := by decide +kernel
theorem dX6_numbers_59 : decode cX6_numbers 59 = .ok (.return_, 1) := by decide +kernel
theorem dX6_best_0 : decode cX6_best 0 = .ok (.iload_n 1, 1) := by decide +kernel
theorem dX6_best_1 : decode cX6_best 1 = .ok (.iconst 1, 1) := by decide +kernel
theorem dX6_best_2 : decode cX6_best 2 = .ok (.iconst 2, 1) := by decide +kernel
theorem dX6_best_3 : decode cX6_best 3 = .ok (.invokestatic 54, 3) := by decide +kernel
theorem dX6_best_6 : decode cX6_best 6 = .ok (.ifCond .eq 22, 3) := by decide +kernel
theorem dX6_best_9 : decode cX6_best 9 = .ok (.iload_n 2, 1) := by decide +kernel
theorem dX6_best_10 : decode cX6_best 10 = .ok (.iconst 1, 1) := by decide +kernel
theorem dX6_best_11 : decode cX6_best 11 = .ok (.iconst 2, 1) := by decide +kernel
theorem dX6_best_12 : decode cX6_best 12 = .ok (.invokestatic 54, 3) := by decide +kernel
theorem dX6_best_15 : decode cX6_best 15 = .ok (.ifCond .eq 13, 3) := by decide +kernel
theorem dX6_best_18 : decode cX6_best 18 = .ok (.iload_n 1, 1) := by decide +kernel
theorem dX6_best_19 : decode cX6_best 19 = .ok (.iconst 2, 1) := by decide +kernel
theorem dX6_best_20 : decode cX6_best 20 = .ok (.if_icmp .ne 10, 3) := by decide +kernel
theorem dX6_best_23 : decode cX6_best 23 = .ok (.iload_n 2, 1) := by decide +kernel
theorem dX6_best_24 : decode cX6_best 24 = .ok (.iconst 2, 1) := by decide +kernel
theorem dX6_best_25 : decode cX6_best 25 = .ok (.if_icmp .ne 5, 3) := by decide +kernel
theorem dX6_best_28 : decode cX6_best 28 = .ok (.iconst (-1), 1) := by decide +kernel
theorem dX6_best_29 : decode cX6_best 29 = .ok (.ireturn, 1) := by decide +kernel
theorem dX6_best_30 : decode cX6_best 30 = .ok (.iconst 2, 1) := by decide +kernel
theorem dX6_best_31 : decode cX6_best 31 = .ok (.iload_n 1, 1) := by decide +kernel
theorem dX6_best_32 : decode cX6_best 32 = .ok (.imul, 1) := by decide +kernel
theorem dX6_best_33 : decode cX6_best 33 = .ok (.iconst 1, 1) := by decide +kernel
theorem dX6_best_34 : decode cX6_best 34 = .ok (.iadd, 1) := by decide +kernel
theorem dX6_best_35 : decode cX6_best 35 = .ok (.iconst 2, 1) := by decide +kernel
theorem dX6_best_36 : decode cX6_best 36 = .ok (.iload_n 1, 1) := by decide +kernel
theorem dX6_best_37 : decode cX6_best 37 = .ok (.imul, 1) := by decide +kernel
theorem dX6_best_38 : decode cX6_best 38 = .ok (.iconst 1, 1) := by decide +kernel
theorem dX6_best_39 : decode cX6_best 39 = .ok (.iadd, 1) := by decide +kernel
theorem dX6_best_40 : decode cX6_best 40 = .ok (.imul, 1) := by decide +kernel
theorem dX6_best_41 : decode cX6_best 41 = .ok (.iconst 2, 1) := by decide +kernel
theorem dX6_best_42 : decode cX6_best 42 = .ok (.iload_n 1, 1) := by decide +kernel
theorem dX6_best_43 : decode cX6_best 43 = .ok (.imul, 1) := by decide +kernel
theorem dX6_best_44 : decode cX6_best 44 = .ok (.iconst 1, 1) := by decide +kernel
theorem dX6_best_45 : decode cX6_best 45 = .ok (.iadd, 1) := by decide +kernel
theorem dX6_best_46 : decode cX6_best 46 = .ok (.imul, 1) := by decide +kernel
theorem dX6_best_47 : decode cX6_best 47 = .ok (.istore_n 3, 1) := by decide +kernel
theorem dX6_best_48 : decode cX6_best 48 = .ok (.iload_n 3, 1) := by decide +kernel
theorem dX6_best_49 : decode cX6_best 49 = .ok (.iconst 2, 1) := by decide +kernel
theorem dX6_best_50 : decode cX6_best 50 = .ok (.idiv, 1) := by decide +kernel
theorem dX6_best_51 : decode cX6_best 51 = .ok (.istore 4, 2) := by decide +kernel
theorem dX6_best_53 : decode cX6_best 53 = .ok (.aload_n 0, 1) := by decide +kernel
theorem dX6_best_54 : decode cX6_best 54 = .ok (.getfield 31, 3) := by decide +kernel
theorem dX6_best_57 : decode cX6_best 57 = .ok (.istore 5, 2) := by decide +kernel
theorem dX6_best_59 : decode cX6_best 59 = .ok (.iconst 0, 1) := by decide +kernel
theorem dX6_best_60 : decode cX6_best 60 = .ok (.istore 6, 2) := by decide +kernel
theorem dX6_best_62 : decode cX6_best 62 = .ok (.iload 6, 2) := by decide +kernel
theorem dX6_best_64 : decode cX6_best 64 = .ok (.bipush 9, 2) := by decide +kernel
theorem dX6_best_66 : decode cX6_best 66 = .ok (.if_icmp .ge 23, 3) := by decide +kernel
theorem dX6_best_69 : decode cX6_best 69 = .ok (.aload_n 0, 1) := by decide +kernel
theorem dX6_best_70 : decode cX6_best 70 = .ok (.getfield 48, 3) := by decide +kernel
theorem dX6_best_73 : decode cX6_best 73 = .ok (.iload 6, 2) := by decide +kernel
theorem dX6_best_75 : decode cX6_best 75 = .ok (.aload_n 0, 1) := by decide +kernel
theorem dX6_best_76 : decode cX6_best 76 = .ok (.getfield 28, 3) := by decide +kernel
theorem dX6_best_79 : decode cX6_best 79 = .ok (.iload 6, 2) := by decide +kernel
theorem dX6_best_81 : decode cX6_best 81 = .ok (.iaload, 1) := by decide +kernel
theorem dX6_best_82 : decode cX6_best 82 = .ok (.iastore, 1) := by decide +kernel
theorem dX6_best_83 : decode cX6_best 83 = .ok (.iinc 6 1, 3) := by decide +kernel
theorem dX6_best_86 : decode cX6_best 86 = .ok (.goto (-24), 3) := by decide +kernel
theorem dX6_best_89 : decode cX6_best 89 = .ok (.aload_n 0, 1) := by decide +kernel
theorem dX6_best_90 : decode cX6_best 90 = .ok (.iconst 1, 1) := by decide +kernel
theorem dX6_best_91 : decode cX6_best 91 = .ok (.putfield 31, 3) := by decide +kernel
theorem dX6_best_94 : decode cX6_best 94 = .ok (.iconst (-1), 1) := by decide +kernel
theorem dX6_best_95 : decode cX6_best 95 = .ok (.istore 6, 2) := by decide +kernel
theorem dX6_best_97 : decode cX6_best 97 = .ok (.iconst 0, 1) := by decide +kernel
theorem dX6_best_98 : decode cX6_best 98 = .ok (.istore 7, 2) := by decide +kernel
theorem dX6_best_100 : decode cX6_best 100 = .ok (.aload_n 0, 1) := by decide +kernel
theorem dX6_best_101 : decode cX6_best 101 = .ok (.iconst 2, 1) := by decide +kernel
theorem dX6_best_102 : decode cX6_best 102 = .ok (.iload 4, 2) := by decide +kernel
theorem dX6_best_104 : decode cX6_best 104 = .ok (.iload_n 1, 1) := by decide +kernel
theorem dX6_best_105 : decode cX6_best 105 = .ok (.invokevirtual 133, 3) := by decide +kernel
theorem dX6_best_108 : decode cX6_best 108 = .ok (.iconst 0, 1) := by decide +kernel
theorem dX6_best_109 : decode cX6_best 109 = .ok (.istore 8, 2) := by decide +kernel
theorem dX6_best_111 : decode cX6_best 111 = .ok (.iload 8, 2) := by decide +kernel
theorem dX6_best_113 : decode cX6_best 113 = .ok (.iload_n 3, 1) := by decide +kernel
theorem dX6_best_114 : decode cX6_best 114 = .ok (.if_icmp .ge 211, 3) := by decide +kernel
theorem dX6_best_117 : decode cX6_best 117 = .ok (.aload_n 0, 1) := by decide +kernel
theorem dX6_best_118 : decode cX6_best 118 = .ok (.iconst 0, 1) := by decide +kernel
theorem dX6_best_119 : decode cX6_best 119 = .ok (.iload 8, 2) := by decide +kernel
theorem dX6_best_121 : decode cX6_best 121 = .ok (.iload_n 1, 1) := by decide +kernel
theorem dX6_best_122 : decode cX6_best 122 = .ok (.invokevirtual 133, 3) := by decide +kernel
theorem dX6_best_125 : decode cX6_best 125 = .ok (.aload_n 0, 1) := by decide +kernel
theorem dX6_best_126 : decode cX6_best 126 = .ok (.invokevirtual 95, 3) := by decide +kernel
theorem dX6_best_129 : decode cX6_best 129 = .ok (.ifCond .lt 6, 3) := by decide +kernel
theorem dX6_best_132 : decode cX6_best 132 = .ok (.goto 187, 3) := by decide +kernel
theorem dX6_best_135 : decode cX6_best 135 = .ok (.iconst 0, 1) := by decide +kernel
theorem dX6_best_136 : decode cX6_best 136 = .ok (.istore 9, 2) := by decide +kernel
theorem dX6_best_138 : decode cX6_best 138 = .ok (.iload 9, 2) := by decide +kernel
theorem dX6_best_140 : decode cX6_best 140 = .ok (.iload_n 3, 1) := by decide +kernel
theorem dX6_best_141 : decode cX6_best 141 = .ok (.if_icmp .ge 178, 3) := by decide +kernel
theorem dX6_best_144 : decode cX6_best 144 = .ok (.iload 9, 2) := by decide +kernel
theorem dX6_best_146 : decode cX6_best 146 = .ok (.iload 4, 2) := by decide +kernel
theorem dX6_best_148 : decode cX6_best 148 = .ok (.if_icmp .ne 6, 3) := by decide +kernel
theorem dX6_best_151 : decode cX6_best 151 = .ok (.goto 162, 3) := by decide +kernel
theorem dX6_best_154 : decode cX6_best 154 = .ok (.aload_n 0, 1) := by decide +kernel
theorem dX6_best_155 : decode cX6_best 155 = .ok (.iconst 1, 1) := by decide +kernel
theorem dX6_best_156 : decode cX6_best 156 = .ok (.iload 9, 2) := by decide +kernel
theorem dX6_best_158 : decode cX6_best 158 = .ok (.iload_n 1, 1) := by decide +kernel
theorem dX6_best_159 : decode cX6_best 159 = .ok (.invokevirtual 133, 3) := by decide +kernel
theorem dX6_best_162 : decode cX6_best 162 = .ok (.iload_n 2, 1) := by decide +kernel
theorem dX6_best_163 : decode cX6_best 163 = .ok (.iconst 1, 1) := by decide +kernel
theorem dX6_best_164 : decode cX6_best 164 = .ok (.if_icmp .ne 8, 3) := by decide +kernel
theorem dX6_best_167 : decode cX6_best 167 = .ok (.iload 4, 2) := by decide +kernel
theorem dX6_best_169 : decode cX6_best 169 = .ok (.goto 4, 3) := by decide +kernel
theorem dX6_best_172 : decode cX6_best 172 = .ok (.iconst 0, 1) := by decide +kernel
theorem dX6_best_173 : decode cX6_best 173 = .ok (.istore 10, 2) := by decide +kernel
theorem dX6_best_175 : decode cX6_best 175 = .ok (.iload 10, 2) := by decide +kernel
theorem dX6_best_177 : decode cX6_best 177 = .ok (.iload_n 2, 1) := by decide +kernel
theorem dX6_best_178 : decode cX6_best 178 = .ok (.iconst 1, 1) := by decide +kernel
theorem dX6_best_179 : decode cX6_best 179 = .ok (.if_icmp .ne 10, 3) := by decide +kernel
theorem dX6_best_182 : decode cX6_best 182 = .ok (.iload 4, 2) := by decide +kernel
theorem dX6_best_184 : decode cX6_best 184 = .ok (.iconst 1, 1) := by decide +kernel
theorem dX6_best_185 : decode cX6_best 185 = .ok (.iadd, 1) := by decide +kernel
theorem dX6_best_186 : decode cX6_best 186 = .ok (.goto 4, 3) := by decide +kernel
theorem dX6_best_189 : decode cX6_best 189 = .ok (.iload_n 3, 1) := by decide +kernel
theorem dX6_best_190 : decode cX6_best 190 = .ok (.if_icmp .ge 123, 3) := by decide +kernel
theorem dX6_best_193 : decode cX6_best 193 = .ok (.aload_n 0, 1) := by decide +kernel
theorem dX6_best_194 : decode cX6_best 194 = .ok (.iconst 2, 1) := by decide +kernel
theorem dX6_best_195 : decode cX6_best 195 = .ok (.iload 10, 2) := by decide +kernel
theorem dX6_best_197 : decode cX6_best 197 = .ok (.iload_n 1, 1) := by decide +kernel
theorem dX6_best_198 : decode cX6_best 198 = .ok (.invokevirtual 133, 3) := by decide +kernel
theorem dX6_best_201 : decode cX6_best 201 = .ok (.iload_n 2, 1) := by decide +kernel
theorem dX6_best_202 : decode cX6_best 202 = .ok (.iconst 2, 1) := by decide +kernel
theorem dX6_best_203 : decode cX6_best 203 = .ok (.if_icmp .ne 10, 3) := by decide +kernel
theorem dX6_best_206 : decode cX6_best 206 = .ok (.iload 10, 2) := by decide +kernel
theorem dX6_best_208 : decode cX6_best 208 = .ok (.iload 4, 2) := by decide +kernel
theorem dX6_best_210 : decode cX6_best 210 = .ok (.if_icmp .eq 97, 3) := by decide +kernel
theorem dX6_best_213 : decode cX6_best 213 = .ok (.aload_n 0, 1) := by decide +kernel
theorem dX6_best_214 : decode cX6_best 214 = .ok (.invokevirtual 136, 3) := by decide +kernel
theorem dX6_best_217 : decode cX6_best 217 = .ok (.ifCond .ne 6, 3) := by decide +kernel
theorem dX6_best_220 : decode cX6_best 220 = .ok (.goto 87, 3) := by decide +kernel
theorem dX6_best_223 : decode cX6_best 223 = .ok (.aload_n 0, 1) := by decide +kernel
theorem dX6_best_224 : decode cX6_best 224 = .ok (.invokevirtual 121, 3) := by decide +kernel
theorem dX6_best_227 : decode cX6_best 227 = .ok (.istore 11, 2) := by decide +kernel
theorem dX6_best_229 : decode cX6_best 229 = .ok (.iload 6, 2) := by decide +kernel
theorem dX6_best_231 : decode cX6_best 231 = .ok (.ifCond .lt 13, 3) := by decide +kernel
theorem dX6_best_234 : decode cX6_best 234 = .ok (.iload 11, 2) := by decide +kernel
theorem dX6_best_236 : decode cX6_best 236 = .ok (.iload 6, 2) := by decide +kernel
theorem dX6_best_238 : decode cX6_best 238 = .ok (.if_icmp .le 6, 3) := by decide +kernel
theorem dX6_best_241 : decode cX6_best 241 = .ok (.goto 66, 3) := by decide +kernel
theorem dX6_best_244 : decode cX6_best 244 = .ok (.aload_n 0, 1) := by decide +kernel
theorem dX6_best_245 : decode cX6_best 245 = .ok (.invokevirtual 124, 3) := by decide +kernel
theorem dX6_best_248 : decode cX6_best 248 = .ok (.istore 12, 2) := by decide +kernel
theorem dX6_best_250 : decode cX6_best 250 = .ok (.iload 6, 2) := by decide +kernel
theorem dX6_best_252 : decode cX6_best 252 = .ok (.ifCond .lt 17, 3) := by decide +kernel
theorem dX6_best_255 : decode cX6_best 255 = .ok (.iload 11, 2) := by decide +kernel
theorem dX6_best_257 : decode cX6_best 257 = .ok (.iload 6, 2) := by decide +kernel
theorem dX6_best_259 : decode cX6_best 259 = .ok (.if_icmp .lt 10, 3) := by decide +kernel
theorem dX6_best_262 : decode cX6_best 262 = .ok (.iload 12, 2) := by decide +kernel
theorem dX6_best_264 : decode cX6_best 264 = .ok (.iload 7, 2) := by decide +kernel
theorem dX6_best_266 : decode cX6_best 266 = .ok (.if_icmp .ge 41, 3) := by decide +kernel
theorem dX6_best_269 : decode cX6_best 269 = .ok (.iload 11, 2) := by decide +kernel
theorem dX6_best_271 : decode cX6_best 271 = .ok (.istore 6, 2) := by decide +kernel
theorem dX6_best_273 : decode cX6_best 273 = .ok (.iload 12, 2) := by decide +kernel
theorem dX6_best_275 : decode cX6_best 275 = .ok (.istore 7, 2) := by decide +kernel
theorem dX6_best_277 : decode cX6_best 277 = .ok (.iconst 0, 1) := by decide +kernel
theorem dX6_best_278 : decode cX6_best 278 = .ok (.istore 13, 2) := by decide +kernel
theorem dX6_best_280 : decode cX6_best 280 = .ok (.iload 13, 2) := by decide +kernel
theorem dX6_best_282 : decode cX6_best 282 = .ok (.bipush 9, 2) := by decide +kernel
theorem dX6_best_284 : decode cX6_best 284 = .ok (.if_icmp .ge 23, 3) := by decide +kernel
theorem dX6_best_287 : decode cX6_best 287 = .ok (.aload_n 0, 1) := by decide +kernel
theorem dX6_best_288 : decode cX6_best 288 = .ok (.getfield 51, 3) := by decide +kernel
theorem dX6_best_291 : decode cX6_best 291 = .ok (.iload 13, 2) := by decide +kernel
theorem dX6_best_293 : decode cX6_best 293 = .ok (.aload_n 0, 1) := by decide +kernel
theorem dX6_best_294 : decode cX6_best 294 = .ok (.getfield 28, 3) := by decide +kernel
theorem dX6_best_297 : decode cX6_best 297 = .ok (.iload 13, 2) := by decide +kernel
theorem dX6_best_299 : decode cX6_best 299 = .ok (.iaload, 1) := by decide +kernel
theorem dX6_best_300 : decode cX6_best 300 = .ok (.iastore, 1) := by decide +kernel
theorem dX6_best_301 : decode cX6_best 301 = .ok (.iinc 13 1, 3) := by decide +kernel
theorem dX6_best_304 : decode cX6_best 304 = .ok (.goto (-24), 3) := by decide +kernel
theorem dX6_best_307 : decode cX6_best 307 = .ok (.iinc 10 1, 3) := by decide +kernel
theorem dX6_best_310 : decode cX6_best 310 = .ok (.goto (-135), 3) := by decide +kernel
theorem dX6_best_313 : decode cX6_best 313 = .ok (.iinc 9 1, 3) := by decide +kernel
theorem dX6_best_316 : decode cX6_best 316 = .ok (.goto (-178), 3) := by decide +kernel
theorem dX6_best_319 : decode cX6_best 319 = .ok (.iinc 8 1, 3) := by decide +kernel
theorem dX6_best_322 : decode cX6_best 322 = .ok (.goto (-211), 3) := by decide +kernel
theorem dX6_best_325 : decode cX6_best 325 = .ok (.aload_n 0, 1) := by decide +kernel
theorem dX6_best_326 : decode cX6_best 326 = .ok (.iload 5, 2) := by decide +kernel
theorem dX6_best_328 : decode cX6_best 328 = .ok (.putfield 31, 3) := by decide +kernel
theorem dX6_best_331 : decode cX6_best 331 = .ok (.iconst 0, 1) := by decide +kernel
theorem dX6_best_332 : decode cX6_best 332 = .ok (.istore 8, 2) := by decide +kernel
theorem dX6_best_334 : decode cX6_best 334 = .ok (.iload 8, 2) := by decide +kernel
theorem dX6_best_336 : decode cX6_best 336 = .ok (.bipush 9, 2) := by decide +kernel
theorem dX6_best_338 : decode cX6_best 338 = .ok (.if_icmp .ge 38, 3) := by decide +kernel
theorem dX6_best_341 : decode cX6_best 341 = .ok (.aload_n 0, 1) := by decide +kernel
theorem dX6_best_342 : decode cX6_best 342 = .ok (.getfield 28, 3) := by decide +kernel
theorem dX6_best_345 : decode cX6_best 345 = .ok (.iload 8, 2) := by decide +kernel
theorem dX6_best_347 : decode cX6_best 347 = .ok (.iload 6, 2) := by decide +kernel
theorem dX6_best_349 : decode cX6_best 349 = .ok (.ifCond .ge 13, 3) := by decide +kernel
theorem dX6_best_352 : decode cX6_best 352 = .ok (.aload_n 0, 1) := by decide +kernel
theorem dX6_best_353 : decode cX6_best 353 = .ok (.getfield 48, 3) := by decide +kernel
theorem dX6_best_356 : decode cX6_best 356 = .ok (.iload 8, 2) := by decide +kernel
theorem dX6_best_358 : decode cX6_best 358 = .ok (.iaload, 1) := by decide +kernel
theorem dX6_best_359 : decode cX6_best 359 = .ok (.goto 10, 3) := by decide +kernel
theorem dX6_best_362 : decode cX6_best 362 = .ok (.aload_n 0, 1) := by decide +kernel
theorem dX6_best_363 : decode cX6_best 363 = .ok (.getfield 51, 3) := by decide +kernel
theorem dX6_best_366 : decode cX6_best 366 = .ok (.iload 8, 2) := by decide +kernel
theorem dX6_best_368 : decode cX6_best 368 = .ok (.iaload, 1) := by decide +kernel
theorem dX6_best_369 : decode cX6_best 369 = .ok (.iastore, 1) := by decide +kernel
theorem dX6_best_370 : decode cX6_best 370 = .ok (.iinc 8 1, 3) := by decide +kernel
theorem dX6_best_373 : decode cX6_best 373 = .ok (.goto (-39), 3) := by decide +kernel
theorem dX6_best_376 : decode cX6_best 376 = .ok (.iload 6, 2) := by decide +kernel
theorem dX6_best_378 : decode cX6_best 378 = .ok (.ifCond .ge 5, 3) := by decide +kernel
theorem dX6_best_381 : decode cX6_best 381 = .ok (.iconst (-1), 1) := by decide +kernel
theorem dX6_best_382 : decode cX6_best 382 = .ok (.ireturn, 1) := by decide +kernel
theorem dX6_best_383 : decode cX6_best 383 = .ok (.aload_n 0, 1) := by decide +kernel
theorem dX6_best_384 : decode cX6_best 384 = .ok (.iconst 0, 1) := by decide +kernel
theorem dX6_best_385 : decode cX6_best 385 = .ok (.putfield 67, 3) := by decide +kernel
theorem dX6_best_388 : decode cX6_best 388 = .ok (.aload_n 0, 1) := by decide +kernel
theorem dX6_best_389 : decode cX6_best 389 = .ok (.invokevirtual 121, 3) := by decide +kernel
theorem dX6_best_392 : decode cX6_best 392 = .ok (.ireturn, 1) := by decide +kernel
theorem dX6_laying_0 : decode cX6_laying 0 = .ok (.iload_n 1, 1) := by decide +kernel
theorem dX6_laying_1 : decode cX6_laying 1 = .ok (.iconst 0, 1) := by decide +kernel
theorem dX6_laying_2 : decode cX6_laying 2 = .ok (.iconst 2, 1) := by decide +kernel
theorem dX6_laying_3 : decode cX6_laying 3 = .ok (.invokestatic 54, 3) := by decide +kernel
theorem dX6_laying_6 : decode cX6_laying 6 = .ok (.ifCond .eq 25, 3) := by decide +kernel
theorem dX6_laying_9 : decode cX6_laying 9 = .ok (.iload_n 2, 1) := by decide +kernel
theorem dX6_laying_10 : decode cX6_laying 10 = .ok (.iconst 0, 1) := by decide +kernel
theorem dX6_laying_11 : decode cX6_laying 11 = .ok (.iconst 2, 1) := by decide +kernel
theorem dX6_laying_12 : decode cX6_laying 12 = .ok (.invokestatic 54, 3) := by decide +kernel
theorem dX6_laying_15 : decode cX6_laying 15 = .ok (.ifCond .eq 16, 3) := by decide +kernel
theorem dX6_laying_18 : decode cX6_laying 18 = .ok (.aload_n 0, 1) := by decide +kernel
theorem dX6_laying_19 : decode cX6_laying 19 = .ok (.getfield 28, 3) := by decide +kernel
theorem dX6_laying_22 : decode cX6_laying 22 = .ok (.iconst 3, 1) := by decide +kernel
theorem dX6_laying_23 : decode cX6_laying 23 = .ok (.iload_n 1, 1) := by decide +kernel
theorem dX6_laying_24 : decode cX6_laying 24 = .ok (.imul, 1) := by decide +kernel
theorem dX6_laying_25 : decode cX6_laying 25 = .ok (.iload_n 2, 1) := by decide +kernel
theorem dX6_laying_26 : decode cX6_laying 26 = .ok (.iadd, 1) := by decide +kernel
theorem dX6_laying_27 : decode cX6_laying 27 = .ok (.iaload, 1) := by decide +kernel
theorem dX6_laying_28 : decode cX6_laying 28 = .ok (.goto 6, 3) := by decide +kernel
theorem dX6_laying_31 : decode cX6_laying 31 = .ok (.sipush (-1000), 3) := by decide +kernel
theorem dX6_laying_34 : decode cX6_laying 34 = .ok (.ireturn, 1) := by decide +kernel
theorem dX6_comes_0 : decode cX6_comes 0 = .ok (.aload_n 0, 1) := by decide +kernel
theorem dX6_comes_1 : decode cX6_comes 1 = .ok (.iload_n 2, 1) := by decide +kernel
theorem dX6_comes_2 : decode cX6_comes 2 = .ok (.iload_n 3, 1) := by decide +kernel
theorem dX6_comes_3 : decode cX6_comes 3 = .ok (.invokevirtual 139, 3) := by decide +kernel
theorem dX6_comes_6 : decode cX6_comes 6 = .ok (.istore 4, 2) := by decide +kernel
theorem dX6_comes_8 : decode cX6_comes 8 = .ok (.iload 4, 2) := by decide +kernel
theorem dX6_comes_10 : decode cX6_comes 10 = .ok (.ifCond .ge 18, 3) := by decide +kernel
theorem dX6_comes_13 : decode cX6_comes 13 = .ok (.aload_n 0, 1) := by decide +kernel
theorem dX6_comes_14 : decode cX6_comes 14 = .ok (.getfield 25, 3) := by decide +kernel
theorem dX6_comes_17 : decode cX6_comes 17 = .ok (.sipush 512, 3) := by decide +kernel
theorem dX6_comes_20 : decode cX6_comes 20 = .ok (.iload_n 2, 1) := by decide +kernel
theorem dX6_comes_21 : decode cX6_comes 21 = .ok (.imul, 1) := by decide +kernel
theorem dX6_comes_22 : decode cX6_comes 22 = .ok (.iload_n 3, 1) := by decide +kernel
theorem dX6_comes_23 : decode cX6_comes 23 = .ok (.iadd, 1) := by decide +kernel
theorem dX6_comes_24 : decode cX6_comes 24 = .ok (.iaload, 1) := by decide +kernel
theorem dX6_comes_25 : decode cX6_comes 25 = .ok (.goto 13, 3) := by decide +kernel
theorem dX6_comes_28 : decode cX6_comes 28 = .ok (.aload_n 1, 1) := by decide +kernel
theorem dX6_comes_29 : decode cX6_comes 29 = .ok (.sipush 512, 3) := by decide +kernel
theorem dX6_comes_32 : decode cX6_comes 32 = .ok (.iload_n 2, 1) := by decide +kernel
theorem dX6_comes_33 : decode cX6_comes 33 = .ok (.imul, 1) := by decide +kernel
theorem dX6_comes_34 : decode cX6_comes 34 = .ok (.iload 4, 2) := by decide +kernel
theorem dX6_comes_36 : decode cX6_comes 36 = .ok (.iadd, 1) := by decide +kernel
theorem dX6_comes_37 : decode cX6_comes 37 = .ok (.iaload, 1) := by decide +kernel
theorem dX6_comes_38 : decode cX6_comes 38 = .ok (.ireturn, 1) := by decide +kernel
theorem dX6_work_0 : decode cX6_work 0 = .ok (.iconst 0, 1) := by decide +kernel
theorem dX6_work_1 : decode cX6_work 1 = .ok (.istore_n 3, 1) := by decide +kernel
theorem dX6_work_2 : decode cX6_work 2 = .ok (.iload_n 3, 1) := by decide +kernel
theorem dX6_work_3 : decode cX6_work 3 = .ok (.aload_n 0, 1) := by decide +kernel
theorem dX6_work_4 : decode cX6_work 4 = .ok (.getfield 58, 3) := by decide +kernel
theorem dX6_work_7 : decode cX6_work 7 = .ok (.if_icmp .ge 70, 3) := by decide +kernel
theorem dX6_work_10 : decode cX6_work 10 = .ok (.aload_n 0, 1) := by decide +kernel
theorem dX6_work_11 : decode cX6_work 11 = .ok (.aload_n 1, 1) := by decide +kernel
theorem dX6_work_12 : decode cX6_work 12 = .ok (.iload_n 3, 1) := by decide +kernel
theorem dX6_work_13 : decode cX6_work 13 = .ok (.iload_n 2, 1) := by decide +kernel
theorem dX6_work_14 : decode cX6_work 14 = .ok (.invokevirtual 142, 3) := by decide +kernel
theorem dX6_work_17 : decode cX6_work 17 = .ok (.istore 4, 2) := by decide +kernel
theorem dX6_work_19 : decode cX6_work 19 = .ok (.aload_n 0, 1) := by decide +kernel
theorem dX6_work_20 : decode cX6_work 20 = .ok (.aload_n 1, 1) := by decide +kernel
theorem dX6_work_21 : decode cX6_work 21 = .ok (.aload_n 0, 1) := by decide +kernel
theorem dX6_work_22 : decode cX6_work 22 = .ok (.getfield 19, 3) := by decide +kernel
theorem dX6_work_25 : decode cX6_work 25 = .ok (.iload_n 3, 1) := by decide +kernel
theorem dX6_work_26 : decode cX6_work 26 = .ok (.iaload, 1) := by decide +kernel
theorem dX6_work_27 : decode cX6_work 27 = .ok (.iload_n 2, 1) := by decide +kernel
theorem dX6_work_28 : decode cX6_work 28 = .ok (.invokevirtual 142, 3) := by decide +kernel
theorem dX6_work_31 : decode cX6_work 31 = .ok (.istore 5, 2) := by decide +kernel
theorem dX6_work_33 : decode cX6_work 33 = .ok (.aload_n 0, 1) := by decide +kernel
theorem dX6_work_34 : decode cX6_work 34 = .ok (.aload_n 1, 1) := by decide +kernel
theorem dX6_work_35 : decode cX6_work 35 = .ok (.aload_n 0, 1) := by decide +kernel
theorem dX6_work_36 : decode cX6_work 36 = .ok (.getfield 22, 3) := by decide +kernel
theorem dX6_work_39 : decode cX6_work 39 = .ok (.iload_n 3, 1) := by decide +kernel
theorem dX6_work_40 : decode cX6_work 40 = .ok (.iaload, 1) := by decide +kernel
theorem dX6_work_41 : decode cX6_work 41 = .ok (.iload_n 2, 1) := by decide +kernel
theorem dX6_work_42 : decode cX6_work 42 = .ok (.invokevirtual 142, 3) := by decide +kernel
theorem dX6_work_45 : decode cX6_work 45 = .ok (.istore 6, 2) := by decide +kernel
theorem dX6_work_47 : decode cX6_work 47 = .ok (.aload_n 1, 1) := by decide +kernel
theorem dX6_work_48 : decode cX6_work 48 = .ok (.sipush 512, 3) := by decide +kernel
theorem dX6_work_51 : decode cX6_work 51 = .ok (.iload_n 3, 1) := by decide +kernel
theorem dX6_work_52 : decode cX6_work 52 = .ok (.imul, 1) := by decide +kernel
theorem dX6_work_53 : decode cX6_work 53 = .ok (.iload_n 2, 1) := by decide +kernel
theorem dX6_work_54 : decode cX6_work 54 = .ok (.iadd, 1) := by decide +kernel
theorem dX6_work_55 : decode cX6_work 55 = .ok (.aload_n 0, 1) := by decide +kernel
theorem dX6_work_56 : decode cX6_work 56 = .ok (.getfield 16, 3) := by decide +kernel
theorem dX6_work_59 : decode cX6_work 59 = .ok (.iload_n 3, 1) := by decide +kernel
theorem dX6_work_60 : decode cX6_work 60 = .ok (.iaload, 1) := by decide +kernel
theorem dX6_work_61 : decode cX6_work 61 = .ok (.iload 4, 2) := by decide +kernel
theorem dX6_work_63 : decode cX6_work 63 = .ok (.iload 5, 2) := by decide +kernel
theorem dX6_work_65 : decode cX6_work 65 = .ok (.iload 6, 2) := by decide +kernel
theorem dX6_work_67 : decode cX6_work 67 = .ok (.invokestatic 146, 3) := by decide +kernel
theorem dX6_work_70 : decode cX6_work 70 = .ok (.iastore, 1) := by decide +kernel
theorem dX6_work_71 : decode cX6_work 71 = .ok (.iinc 3 1, 3) := by decide +kernel
theorem dX6_work_74 : decode cX6_work 74 = .ok (.goto (-72), 3) := by decide +kernel
theorem dX6_work_77 : decode cX6_work 77 = .ok (.return_, 1) := by decide +kernel
theorem dX6_made_0 : decode cX6_made 0 = .ok (.iload_n 0, 1) := by decide +kernel
theorem dX6_made_1 : decode cX6_made 1 = .ok (.tableswitch 96 0 6 #[43, 45, 51, 66, 77, 88, 92], 43) := by decide +kernel
theorem dX6_made_44 : decode cX6_made 44 = .ok (.iload_n 1, 1) := by decide +kernel
theorem dX6_made_45 : decode cX6_made 45 = .ok (.ireturn, 1) := by decide +kernel
theorem dX6_made_46 : decode cX6_made 46 = .ok (.iload_n 1, 1) := by decide +kernel
theorem dX6_made_47 : decode cX6_made 47 = .ok (.iload_n 2, 1) := by decide +kernel
theorem dX6_made_48 : decode cX6_made 48 = .ok (.iload_n 3, 1) := by decide +kernel
theorem dX6_made_49 : decode cX6_made 49 = .ok (.imul, 1) := by decide +kernel
theorem dX6_made_50 : decode cX6_made 50 = .ok (.iadd, 1) := by decide +kernel
theorem dX6_made_51 : decode cX6_made 51 = .ok (.ireturn, 1) := by decide +kernel
theorem dX6_made_52 : decode cX6_made 52 = .ok (.iload_n 1, 1) := by decide +kernel
theorem dX6_made_53 : decode cX6_made 53 = .ok (.iload_n 2, 1) := by decide +kernel
theorem dX6_made_54 : decode cX6_made 54 = .ok (.iload_n 3, 1) := by decide +kernel
theorem dX6_made_55 : decode cX6_made 55 = .ok (.iadd, 1) := by decide +kernel
theorem dX6_made_56 : decode cX6_made 56 = .ok (.if_icmp .ge 7, 3) := by decide +kernel
theorem dX6_made_59 : decode cX6_made 59 = .ok (.iload_n 1, 1) := by decide +kernel
theorem dX6_made_60 : decode cX6_made 60 = .ok (.goto 6, 3) := by decide +kernel
theorem dX6_made_63 : decode cX6_made 63 = .ok (.iload_n 2, 1) := by decide +kernel
theorem dX6_made_64 : decode cX6_made 64 = .ok (.iload_n 3, 1) := by decide +kernel
theorem dX6_made_65 : decode cX6_made 65 = .ok (.iadd, 1) := by decide +kernel
theorem dX6_made_66 : decode cX6_made 66 = .ok (.ireturn, 1) := by decide +kernel
theorem dX6_made_67 : decode cX6_made 67 = .ok (.iload_n 2, 1) := by decide +kernel
theorem dX6_made_68 : decode cX6_made 68 = .ok (.iload_n 3, 1) := by decide +kernel
theorem dX6_made_69 : decode cX6_made 69 = .ok (.if_icmp .ge 7, 3) := by decide +kernel
theorem dX6_made_72 : decode cX6_made 72 = .ok (.iload_n 2, 1) := by decide +kernel
theorem dX6_made_73 : decode cX6_made 73 = .ok (.goto 4, 3) := by decide +kernel
theorem dX6_made_76 : decode cX6_made 76 = .ok (.iload_n 3, 1) := by decide +kernel
theorem dX6_made_77 : decode cX6_made 77 = .ok (.ireturn, 1) := by decide +kernel
theorem dX6_made_78 : decode cX6_made 78 = .ok (.iload_n 2, 1) := by decide +kernel
theorem dX6_made_79 : decode cX6_made 79 = .ok (.iload_n 3, 1) := by decide +kernel
theorem dX6_made_80 : decode cX6_made 80 = .ok (.if_icmp .le 7, 3) := by decide +kernel
theorem dX6_made_83 : decode cX6_made 83 = .ok (.iload_n 2, 1) := by decide +kernel
theorem dX6_made_84 : decode cX6_made 84 = .ok (.goto 4, 3) := by decide +kernel
theorem dX6_made_87 : decode cX6_made 87 = .ok (.iload_n 3, 1) := by decide +kernel
theorem dX6_made_88 : decode cX6_made 88 = .ok (.ireturn, 1) := by decide +kernel
theorem dX6_made_89 : decode cX6_made 89 = .ok (.iload_n 2, 1) := by decide +kernel
theorem dX6_made_90 : decode cX6_made 90 = .ok (.iload_n 3, 1) := by decide +kernel
theorem dX6_made_91 : decode cX6_made 91 = .ok (.iadd, 1) := by decide +kernel
theorem dX6_made_92 : decode cX6_made 92 = .ok (.ireturn, 1) := by decide +kernel
theorem dX6_made_93 : decode cX6_made 93 = .ok (.iload_n 2, 1) := by decide +kernel
theorem dX6_made_94 : decode cX6_made 94 = .ok (.iload_n 3, 1) := by decide +kernel
theorem dX6_made_95 : decode cX6_made 95 = .ok (.isub, 1) := by decide +kernel
theorem dX6_made_96 : decode cX6_made 96 = .ok (.ireturn, 1) := by decide +kernel
theorem dX6_made_97 : decode cX6_made 97 = .ok (.iload_n 2, 1) := by decide +kernel
theorem dX6_made_98 : decode cX6_made 98 = .ok (.iload_n 3, 1) := by decide +kernel
theorem dX6_made_99 : decode cX6_made 99 = .ok (.ixor, 1) := by decide +kernel
theorem dX6_made_100 : decode cX6_made 100 = .ok (.ireturn, 1) := by decide +kernel
theorem dX6_run_0 : decode cX6_run 0 = .ok (.aload_n 0, 1) := by decide +kernel
theorem dX6_run_1 : decode cX6_run 1 = .ok (.invokevirtual 136, 3) := by decide +kernel
theorem dX6_run_4 : decode cX6_run 4 = .ok (.ifCond .ne 5, 3) := by decide +kernel
theorem dX6_run_7 : decode cX6_run 7 = .ok (.iconst (-1), 1) := by decide +kernel
theorem dX6_run_8 : decode cX6_run 8 = .ok (.ireturn, 1) := by decide +kernel
theorem dX6_run_9 : decode cX6_run 9 = .ok (.aload_n 0, 1) := by decide +kernel
theorem dX6_run_10 : decode cX6_run 10 = .ok (.invokevirtual 121, 3) := by decide +kernel
theorem dX6_run_13 : decode cX6_run 13 = .ok (.istore_n 1, 1) := by decide +kernel
theorem dX6_run_14 : decode cX6_run 14 = .ok (.iconst 0, 1) := by decide +kernel
theorem dX6_run_15 : decode cX6_run 15 = .ok (.istore_n 2, 1) := by decide +kernel
theorem dX6_run_16 : decode cX6_run 16 = .ok (.iload_n 2, 1) := by decide +kernel
theorem dX6_run_17 : decode cX6_run 17 = .ok (.iload_n 1, 1) := by decide +kernel
theorem dX6_run_18 : decode cX6_run 18 = .ok (.if_icmp .ge 50, 3) := by decide +kernel
theorem dX6_run_21 : decode cX6_run 21 = .ok (.iconst 0, 1) := by decide +kernel
theorem dX6_run_22 : decode cX6_run 22 = .ok (.istore_n 3, 1) := by decide +kernel
theorem dX6_run_23 : decode cX6_run 23 = .ok (.iload_n 3, 1) := by decide +kernel
theorem dX6_run_24 : decode cX6_run 24 = .ok (.sipush 512, 3) := by decide +kernel
theorem dX6_run_27 : decode cX6_run 27 = .ok (.if_icmp .ge 35, 3) := by decide +kernel
theorem dX6_run_30 : decode cX6_run 30 = .ok (.aload_n 0, 1) := by decide +kernel
theorem dX6_run_31 : decode cX6_run 31 = .ok (.iload_n 3, 1) := by decide +kernel
theorem dX6_run_32 : decode cX6_run 32 = .ok (.invokevirtual 106, 3) := by decide +kernel
theorem dX6_run_35 : decode cX6_run 35 = .ok (.ifCond .eq 21, 3) := by decide +kernel
theorem dX6_run_38 : decode cX6_run 38 = .ok (.aload_n 0, 1) := by decide +kernel
theorem dX6_run_39 : decode cX6_run 39 = .ok (.iload_n 3, 1) := by decide +kernel
theorem dX6_run_40 : decode cX6_run 40 = .ok (.invokevirtual 112, 3) := by decide +kernel
theorem dX6_run_43 : decode cX6_run 43 = .ok (.iload_n 2, 1) := by decide +kernel
theorem dX6_run_44 : decode cX6_run 44 = .ok (.if_icmp .ne 12, 3) := by decide +kernel
theorem dX6_run_47 : decode cX6_run 47 = .ok (.aload_n 0, 1) := by decide +kernel
theorem dX6_run_48 : decode cX6_run 48 = .ok (.aload_n 0, 1) := by decide +kernel
theorem dX6_run_49 : decode cX6_run 49 = .ok (.getfield 35, 3) := by decide +kernel
theorem dX6_run_52 : decode cX6_run 52 = .ok (.iload_n 3, 1) := by decide +kernel
theorem dX6_run_53 : decode cX6_run 53 = .ok (.invokevirtual 150, 3) := by decide +kernel
theorem dX6_run_56 : decode cX6_run 56 = .ok (.iinc 3 1, 3) := by decide +kernel
theorem dX6_run_59 : decode cX6_run 59 = .ok (.goto (-36), 3) := by decide +kernel
theorem dX6_run_62 : decode cX6_run 62 = .ok (.iinc 2 1, 3) := by decide +kernel
theorem dX6_run_65 : decode cX6_run 65 = .ok (.goto (-49), 3) := by decide +kernel
theorem dX6_run_68 : decode cX6_run 68 = .ok (.aload_n 0, 1) := by decide +kernel
theorem dX6_run_69 : decode cX6_run 69 = .ok (.iconst 1, 1) := by decide +kernel
theorem dX6_run_70 : decode cX6_run 70 = .ok (.putfield 67, 3) := by decide +kernel
theorem dX6_run_73 : decode cX6_run 73 = .ok (.aload_n 0, 1) := by decide +kernel
theorem dX6_run_74 : decode cX6_run 74 = .ok (.invokevirtual 127, 3) := by decide +kernel
theorem dX6_run_77 : decode cX6_run 77 = .ok (.ireturn, 1) := by decide +kernel
theorem dX6_worked_0 : decode cX6_worked 0 = .ok (.iconst 0, 1) := by decide +kernel
theorem dX6_worked_1 : decode cX6_worked 1 = .ok (.istore 4, 2) := by decide +kernel
theorem dX6_worked_3 : decode cX6_worked 3 = .ok (.iload 4, 2) := by decide +kernel
theorem dX6_worked_5 : decode cX6_worked 5 = .ok (.sipush 512, 3) := by decide +kernel
theorem dX6_worked_8 : decode cX6_worked 8 = .ok (.if_icmp .ge 59, 3) := by decide +kernel
theorem dX6_worked_11 : decode cX6_worked 11 = .ok (.aload_n 0, 1) := by decide +kernel
theorem dX6_worked_12 : decode cX6_worked 12 = .ok (.getfield 67, 3) := by decide +kernel
theorem dX6_worked_15 : decode cX6_worked 15 = .ok (.ifCond .eq 52, 3) := by decide +kernel
theorem dX6_worked_18 : decode cX6_worked 18 = .ok (.aload_n 0, 1) := by decide +kernel
theorem dX6_worked_19 : decode cX6_worked 19 = .ok (.iload 4, 2) := by decide +kernel
theorem dX6_worked_21 : decode cX6_worked 21 = .ok (.invokevirtual 106, 3) := by decide +kernel
theorem dX6_worked_24 : decode cX6_worked 24 = .ok (.ifCond .eq 37, 3) := by decide +kernel
theorem dX6_worked_27 : decode cX6_worked 27 = .ok (.aload_n 0, 1) := by decide +kernel
theorem dX6_worked_28 : decode cX6_worked 28 = .ok (.iload 4, 2) := by decide +kernel
theorem dX6_worked_30 : decode cX6_worked 30 = .ok (.invokevirtual 112, 3) := by decide +kernel
theorem dX6_worked_33 : decode cX6_worked 33 = .ok (.iload_n 1, 1) := by decide +kernel
theorem dX6_worked_34 : decode cX6_worked 34 = .ok (.if_icmp .ne 27, 3) := by decide +kernel
theorem dX6_worked_37 : decode cX6_worked 37 = .ok (.aload_n 0, 1) := by decide +kernel
theorem dX6_worked_38 : decode cX6_worked 38 = .ok (.iload 4, 2) := by decide +kernel
theorem dX6_worked_40 : decode cX6_worked 40 = .ok (.invokevirtual 115, 3) := by decide +kernel
theorem dX6_worked_43 : decode cX6_worked 43 = .ok (.iload_n 2, 1) := by decide +kernel
theorem dX6_worked_44 : decode cX6_worked 44 = .ok (.if_icmp .ne 17, 3) := by decide +kernel
theorem dX6_worked_47 : decode cX6_worked 47 = .ok (.aload_n 0, 1) := by decide +kernel
theorem dX6_worked_48 : decode cX6_worked 48 = .ok (.iconst 2, 1) := by decide +kernel
theorem dX6_worked_49 : decode cX6_worked 49 = .ok (.iload 4, 2) := by decide +kernel
theorem dX6_worked_51 : decode cX6_worked 51 = .ok (.invokevirtual 75, 3) := by decide +kernel
theorem dX6_worked_54 : decode cX6_worked 54 = .ok (.iload_n 3, 1) := by decide +kernel
theorem dX6_worked_55 : decode cX6_worked 55 = .ok (.if_icmp .ne 6, 3) := by decide +kernel
theorem dX6_worked_58 : decode cX6_worked 58 = .ok (.iload 4, 2) := by decide +kernel
theorem dX6_worked_60 : decode cX6_worked 60 = .ok (.ireturn, 1) := by decide +kernel
theorem dX6_worked_61 : decode cX6_worked 61 = .ok (.iinc 4 1, 3) := by decide +kernel
theorem dX6_worked_64 : decode cX6_worked 64 = .ok (.goto (-61), 3) := by decide +kernel
theorem dX6_worked_67 : decode cX6_worked 67 = .ok (.iconst (-1), 1) := by decide +kernel
theorem dX6_worked_68 : decode cX6_worked 68 = .ok (.ireturn, 1) := by decide +kernel
theorem dX6_held_0 : decode cX6_held 0 = .ok (.aload_n 0, 1) := by decide +kernel
theorem dX6_held_1 : decode cX6_held 1 = .ok (.getfield 67, 3) := by decide +kernel
theorem dX6_held_4 : decode cX6_held 4 = .ok (.ifCond .eq 17, 3) := by decide +kernel
theorem dX6_held_7 : decode cX6_held 7 = .ok (.iload_n 1, 1) := by decide +kernel
theorem dX6_held_8 : decode cX6_held 8 = .ok (.iconst 0, 1) := by decide +kernel
theorem dX6_held_9 : decode cX6_held 9 = .ok (.aload_n 0, 1) := by decide +kernel
theorem dX6_held_10 : decode cX6_held 10 = .ok (.invokevirtual 121, 3) := by decide +kernel
theorem dX6_held_13 : decode cX6_held 13 = .ok (.iconst 1, 1) := by decide +kernel
theorem dX6_held_14 : decode cX6_held 14 = .ok (.isub, 1) := by decide +kernel
theorem dX6_held_15 : decode cX6_held 15 = .ok (.invokestatic 54, 3) := by decide +kernel
theorem dX6_held_18 : decode cX6_held 18 = .ok (.ifCond .ne 5, 3) := by decide +kernel
theorem dX6_held_21 : decode cX6_held 21 = .ok (.iconst (-1), 1) := by decide +kernel
theorem dX6_held_22 : decode cX6_held 22 = .ok (.ireturn, 1) := by decide +kernel
theorem dX6_held_23 : decode cX6_held 23 = .ok (.iconst 0, 1) := by decide +kernel
theorem dX6_held_24 : decode cX6_held 24 = .ok (.istore_n 2, 1) := by decide +kernel
theorem dX6_held_25 : decode cX6_held 25 = .ok (.iconst 0, 1) := by decide +kernel
theorem dX6_held_26 : decode cX6_held 26 = .ok (.istore_n 3, 1) := by decide +kernel
theorem dX6_held_27 : decode cX6_held 27 = .ok (.iload_n 3, 1) := by decide +kernel
theorem dX6_held_28 : decode cX6_held 28 = .ok (.aload_n 0, 1) := by decide +kernel
theorem dX6_held_29 : decode cX6_held 29 = .ok (.getfield 58, 3) := by decide +kernel
theorem dX6_held_32 : decode cX6_held 32 = .ok (.if_icmp .ge 81, 3) := by decide +kernel
theorem dX6_held_35 : decode cX6_held 35 = .ok (.iconst 0, 1) := by decide +kernel
theorem dX6_held_36 : decode cX6_held 36 = .ok (.istore 4, 2) := by decide +kernel
theorem dX6_held_38 : decode cX6_held 38 = .ok (.iload 4, 2) := by decide +kernel
theorem dX6_held_40 : decode cX6_held 40 = .ok (.sipush 512, 3) := by decide +kernel
theorem dX6_held_43 : decode cX6_held 43 = .ok (.if_icmp .ge 64, 3) := by decide +kernel
theorem dX6_held_46 : decode cX6_held 46 = .ok (.aload_n 0, 1) := by decide +kernel
theorem dX6_held_47 : decode cX6_held 47 = .ok (.iload 4, 2) := by decide +kernel
theorem dX6_held_49 : decode cX6_held 49 = .ok (.invokevirtual 106, 3) := by decide +kernel
theorem dX6_held_52 : decode cX6_held 52 = .ok (.ifCond .eq 13, 3) := by decide +kernel
theorem dX6_held_55 : decode cX6_held 55 = .ok (.aload_n 0, 1) := by decide +kernel
theorem dX6_held_56 : decode cX6_held 56 = .ok (.iload_n 3, 1) := by decide +kernel
theorem dX6_held_57 : decode cX6_held 57 = .ok (.iload 4, 2) := by decide +kernel
theorem dX6_held_59 : decode cX6_held 59 = .ok (.invokevirtual 154, 3) := by decide +kernel
theorem dX6_held_62 : decode cX6_held 62 = .ok (.goto 4, 3) := by decide +kernel
theorem dX6_held_65 : decode cX6_held 65 = .ok (.iconst (-1), 1) := by decide +kernel
theorem dX6_held_66 : decode cX6_held 66 = .ok (.istore 5, 2) := by decide +kernel
theorem dX6_held_68 : decode cX6_held 68 = .ok (.iload_n 2, 1) := by decide +kernel
theorem dX6_held_69 : decode cX6_held 69 = .ok (.iload 5, 2) := by decide +kernel
theorem dX6_held_71 : decode cX6_held 71 = .ok (.ifCond .lt 27, 3) := by decide +kernel
theorem dX6_held_74 : decode cX6_held 74 = .ok (.aload_n 0, 1) := by decide +kernel
theorem dX6_held_75 : decode cX6_held 75 = .ok (.iload 4, 2) := by decide +kernel
theorem dX6_held_77 : decode cX6_held 77 = .ok (.invokevirtual 112, 3) := by decide +kernel
theorem dX6_held_80 : decode cX6_held 80 = .ok (.iload_n 1, 1) := by decide +kernel
theorem dX6_held_81 : decode cX6_held 81 = .ok (.if_icmp .gt 17, 3) := by decide +kernel
theorem dX6_held_84 : decode cX6_held 84 = .ok (.aload_n 0, 1) := by decide +kernel
theorem dX6_held_85 : decode cX6_held 85 = .ok (.iload 5, 2) := by decide +kernel
theorem dX6_held_87 : decode cX6_held 87 = .ok (.invokevirtual 112, 3) := by decide +kernel
theorem dX6_held_90 : decode cX6_held 90 = .ok (.iload_n 1, 1) := by decide +kernel
theorem dX6_held_91 : decode cX6_held 91 = .ok (.if_icmp .le 7, 3) := by decide +kernel
theorem dX6_held_94 : decode cX6_held 94 = .ok (.iconst 1, 1) := by decide +kernel
theorem dX6_held_95 : decode cX6_held 95 = .ok (.goto 4, 3) := by decide +kernel
theorem dX6_held_98 : decode cX6_held 98 = .ok (.iconst 0, 1) := by decide +kernel
theorem dX6_held_99 : decode cX6_held 99 = .ok (.iadd, 1) := by decide +kernel
theorem dX6_held_100 : decode cX6_held 100 = .ok (.istore_n 2, 1) := by decide +kernel
theorem dX6_held_101 : decode cX6_held 101 = .ok (.iinc 4 1, 3) := by decide +kernel
theorem dX6_held_104 : decode cX6_held 104 = .ok (.goto (-66), 3) := by decide +kernel
theorem dX6_held_107 : decode cX6_held 107 = .ok (.iinc 3 1, 3) := by decide +kernel
theorem dX6_held_110 : decode cX6_held 110 = .ok (.goto (-83), 3) := by decide +kernel
theorem dX6_held_113 : decode cX6_held 113 = .ok (.iload_n 2, 1) := by decide +kernel
theorem dX6_held_114 : decode cX6_held 114 = .ok (.ireturn, 1) := by decide +kernel
theorem dX6_value_0 : decode cX6_value 0 = .ok (.aload_n 0, 1) := by decide +kernel
theorem dX6_value_1 : decode cX6_value 1 = .ok (.getfield 67, 3) := by decide +kernel
theorem dX6_value_4 : decode cX6_value 4 = .ok (.ifCond .eq 48, 3) := by decide +kernel
theorem dX6_value_7 : decode cX6_value 7 = .ok (.aload_n 0, 1) := by decide +kernel
theorem dX6_value_8 : decode cX6_value 8 = .ok (.iload_n 1, 1) := by decide +kernel
theorem dX6_value_9 : decode cX6_value 9 = .ok (.invokevirtual 71, 3) := by decide +kernel
theorem dX6_value_12 : decode cX6_value 12 = .ok (.ifCond .eq 40, 3) := by decide +kernel
theorem dX6_value_15 : decode cX6_value 15 = .ok (.aload_n 0, 1) := by decide +kernel
theorem dX6_value_16 : decode cX6_value 16 = .ok (.iload_n 2, 1) := by decide +kernel
theorem dX6_value_17 : decode cX6_value 17 = .ok (.iload_n 3, 1) := by decide +kernel
theorem dX6_value_18 : decode cX6_value 18 = .ok (.iload 4, 2) := by decide +kernel
theorem dX6_value_20 : decode cX6_value 20 = .ok (.invokevirtual 61, 3) := by decide +kernel
theorem dX6_value_23 : decode cX6_value 23 = .ok (.ifCond .eq 29, 3) := by decide +kernel
theorem dX6_value_26 : decode cX6_value 26 = .ok (.aload_n 0, 1) := by decide +kernel
theorem dX6_value_27 : decode cX6_value 27 = .ok (.getfield 35, 3) := by decide +kernel
theorem dX6_value_30 : decode cX6_value 30 = .ok (.sipush 512, 3) := by decide +kernel
theorem dX6_value_33 : decode cX6_value 33 = .ok (.iload_n 1, 1) := by decide +kernel
theorem dX6_value_34 : decode cX6_value 34 = .ok (.imul, 1) := by decide +kernel
theorem dX6_value_35 : decode cX6_value 35 = .ok (.bipush 64, 2) := by decide +kernel
theorem dX6_value_37 : decode cX6_value 37 = .ok (.iload_n 2, 1) := by decide +kernel
theorem dX6_value_38 : decode cX6_value 38 = .ok (.imul, 1) := by decide +kernel
theorem dX6_value_39 : decode cX6_value 39 = .ok (.iadd, 1) := by decide +kernel
theorem dX6_value_40 : decode cX6_value 40 = .ok (.bipush 8, 2) := by decide +kernel
theorem dX6_value_42 : decode cX6_value 42 = .ok (.iload_n 3, 1) := by decide +kernel
theorem dX6_value_43 : decode cX6_value 43 = .ok (.imul, 1) := by decide +kernel
theorem dX6_value_44 : decode cX6_value 44 = .ok (.iadd, 1) := by decide +kernel
theorem dX6_value_45 : decode cX6_value 45 = .ok (.iload 4, 2) := by decide +kernel
theorem dX6_value_47 : decode cX6_value 47 = .ok (.iadd, 1) := by decide +kernel
theorem dX6_value_48 : decode cX6_value 48 = .ok (.iaload, 1) := by decide +kernel
theorem dX6_value_49 : decode cX6_value 49 = .ok (.goto 4, 3) := by decide +kernel
theorem dX6_value_52 : decode cX6_value 52 = .ok (.iconst 0, 1) := by decide +kernel
theorem dX6_value_53 : decode cX6_value 53 = .ok (.ireturn, 1) := by decide +kernel
theorem dX6_plainly_0 : decode cX6_plainly 0 = .ok (.iconst 0, 1) := by decide +kernel
theorem dX6_plainly_1 : decode cX6_plainly 1 = .ok (.istore_n 1, 1) := by decide +kernel
theorem dX6_plainly_2 : decode cX6_plainly 2 = .ok (.iload_n 1, 1) := by decide +kernel
theorem dX6_plainly_3 : decode cX6_plainly 3 = .ok (.sipush 512, 3) := by decide +kernel
theorem dX6_plainly_6 : decode cX6_plainly 6 = .ok (.if_icmp .ge 26, 3) := by decide +kernel
theorem dX6_plainly_9 : decode cX6_plainly 9 = .ok (.aload_n 0, 1) := by decide +kernel
theorem dX6_plainly_10 : decode cX6_plainly 10 = .ok (.iload_n 1, 1) := by decide +kernel
theorem dX6_plainly_11 : decode cX6_plainly 11 = .ok (.invokevirtual 106, 3) := by decide +kernel
theorem dX6_plainly_14 : decode cX6_plainly 14 = .ok (.ifCond .eq 12, 3) := by decide +kernel
theorem dX6_plainly_17 : decode cX6_plainly 17 = .ok (.aload_n 0, 1) := by decide +kernel
theorem dX6_plainly_18 : decode cX6_plainly 18 = .ok (.aload_n 0, 1) := by decide +kernel
theorem dX6_plainly_19 : decode cX6_plainly 19 = .ok (.getfield 38, 3) := by decide +kernel
theorem dX6_plainly_22 : decode cX6_plainly 22 = .ok (.iload_n 1, 1) := by decide +kernel
theorem dX6_plainly_23 : decode cX6_plainly 23 = .ok (.invokevirtual 150, 3) := by decide +kernel
theorem dX6_plainly_26 : decode cX6_plainly 26 = .ok (.iinc 1 1, 3) := by decide +kernel
theorem dX6_plainly_29 : decode cX6_plainly 29 = .ok (.goto (-27), 3) := by decide +kernel
theorem dX6_plainly_32 : decode cX6_plainly 32 = .ok (.return_, 1) := by decide +kernel
theorem dX6_plain_0 : decode cX6_plain 0 = .ok (.aload_n 0, 1) := by decide +kernel
theorem dX6_plain_1 : decode cX6_plain 1 = .ok (.iload_n 1, 1) := by decide +kernel
theorem dX6_plain_2 : decode cX6_plain 2 = .ok (.invokevirtual 71, 3) := by decide +kernel
theorem dX6_plain_5 : decode cX6_plain 5 = .ok (.ifCond .eq 14, 3) := by decide +kernel
theorem dX6_plain_8 : decode cX6_plain 8 = .ok (.aload_n 0, 1) := by decide +kernel
theorem dX6_plain_9 : decode cX6_plain 9 = .ok (.iload_n 2, 1) := by decide +kernel
theorem dX6_plain_10 : decode cX6_plain 10 = .ok (.iload_n 3, 1) := by decide +kernel
theorem dX6_plain_11 : decode cX6_plain 11 = .ok (.iload 4, 2) := by decide +kernel
theorem dX6_plain_13 : decode cX6_plain 13 = .ok (.invokevirtual 61, 3) := by decide +kernel
theorem dX6_plain_16 : decode cX6_plain 16 = .ok (.ifCond .ne 5, 3) := by decide +kernel
theorem dX6_plain_19 : decode cX6_plain 19 = .ok (.iconst 0, 1) := by decide +kernel
theorem dX6_plain_20 : decode cX6_plain 20 = .ok (.ireturn, 1) := by decide +kernel
theorem dX6_plain_21 : decode cX6_plain 21 = .ok (.aload_n 0, 1) := by decide +kernel
theorem dX6_plain_22 : decode cX6_plain 22 = .ok (.invokevirtual 157, 3) := by decide +kernel
theorem dX6_plain_25 : decode cX6_plain 25 = .ok (.aload_n 0, 1) := by decide +kernel
theorem dX6_plain_26 : decode cX6_plain 26 = .ok (.getfield 38, 3) := by decide +kernel
theorem dX6_plain_29 : decode cX6_plain 29 = .ok (.sipush 512, 3) := by decide +kernel
theorem dX6_plain_32 : decode cX6_plain 32 = .ok (.iload_n 1, 1) := by decide +kernel
theorem dX6_plain_33 : decode cX6_plain 33 = .ok (.imul, 1) := by decide +kernel
theorem dX6_plain_34 : decode cX6_plain 34 = .ok (.bipush 64, 2) := by decide +kernel
theorem dX6_plain_36 : decode cX6_plain 36 = .ok (.iload_n 2, 1) := by decide +kernel
theorem dX6_plain_37 : decode cX6_plain 37 = .ok (.imul, 1) := by decide +kernel
theorem dX6_plain_38 : decode cX6_plain 38 = .ok (.iadd, 1) := by decide +kernel
theorem dX6_plain_39 : decode cX6_plain 39 = .ok (.bipush 8, 2) := by decide +kernel
theorem dX6_plain_41 : decode cX6_plain 41 = .ok (.iload_n 3, 1) := by decide +kernel
theorem dX6_plain_42 : decode cX6_plain 42 = .ok (.imul, 1) := by decide +kernel
theorem dX6_plain_43 : decode cX6_plain 43 = .ok (.iadd, 1) := by decide +kernel
theorem dX6_plain_44 : decode cX6_plain 44 = .ok (.iload 4, 2) := by decide +kernel
theorem dX6_plain_46 : decode cX6_plain 46 = .ok (.iadd, 1) := by decide +kernel
theorem dX6_plain_47 : decode cX6_plain 47 = .ok (.iaload, 1) := by decide +kernel
theorem dX6_plain_48 : decode cX6_plain 48 = .ok (.ireturn, 1) := by decide +kernel
theorem dX6_result_0 : decode cX6_result 0 = .ok (.aload_n 0, 1) := by decide +kernel
theorem dX6_result_1 : decode cX6_result 1 = .ok (.iload_n 1, 1) := by decide +kernel
theorem dX6_result_2 : decode cX6_result 2 = .ok (.invokevirtual 71, 3) := by decide +kernel
theorem dX6_result_5 : decode cX6_result 5 = .ok (.ifCond .eq 12, 3) := by decide +kernel
theorem dX6_result_8 : decode cX6_result 8 = .ok (.iload_n 3, 1) := by decide +kernel
theorem dX6_result_9 : decode cX6_result 9 = .ok (.iconst 0, 1) := by decide +kernel
theorem dX6_result_10 : decode cX6_result 10 = .ok (.iconst 1, 1) := by decide +kernel
theorem dX6_result_11 : decode cX6_result 11 = .ok (.invokestatic 54, 3) := by decide +kernel
theorem dX6_result_14 : decode cX6_result 14 = .ok (.ifCond .ne 5, 3) := by decide +kernel
theorem dX6_result_17 : decode cX6_result 17 = .ok (.iconst (-1), 1) := by decide +kernel
theorem dX6_result_18 : decode cX6_result 18 = .ok (.ireturn, 1) := by decide +kernel
theorem dX6_result_19 : decode cX6_result 19 = .ok (.aload_n 0, 1) := by decide +kernel
theorem dX6_result_20 : decode cX6_result 20 = .ok (.invokevirtual 157, 3) := by decide +kernel
theorem dX6_result_23 : decode cX6_result 23 = .ok (.iconst 0, 1) := by decide +kernel
theorem dX6_result_24 : decode cX6_result 24 = .ok (.istore 4, 2) := by decide +kernel
theorem dX6_result_26 : decode cX6_result 26 = .ok (.iconst 0, 1) := by decide +kernel
theorem dX6_result_27 : decode cX6_result 27 = .ok (.istore 5, 2) := by decide +kernel
theorem dX6_result_29 : decode cX6_result 29 = .ok (.iload 5, 2) := by decide +kernel
theorem dX6_result_31 : decode cX6_result 31 = .ok (.sipush 512, 3) := by decide +kernel
theorem dX6_result_34 : decode cX6_result 34 = .ok (.if_icmp .ge 60, 3) := by decide +kernel
theorem dX6_result_37 : decode cX6_result 37 = .ok (.aload_n 0, 1) := by decide +kernel
theorem dX6_result_38 : decode cX6_result 38 = .ok (.iload 5, 2) := by decide +kernel
theorem dX6_result_40 : decode cX6_result 40 = .ok (.invokevirtual 106, 3) := by decide +kernel
theorem dX6_result_43 : decode cX6_result 43 = .ok (.ifCond .eq 45, 3) := by decide +kernel
theorem dX6_result_46 : decode cX6_result 46 = .ok (.aload_n 0, 1) := by decide +kernel
theorem dX6_result_47 : decode cX6_result 47 = .ok (.iload_n 1, 1) := by decide +kernel
theorem dX6_result_48 : decode cX6_result 48 = .ok (.iload 5, 2) := by decide +kernel
theorem dX6_result_50 : decode cX6_result 50 = .ok (.invokevirtual 154, 3) := by decide +kernel
theorem dX6_result_53 : decode cX6_result 53 = .ok (.ifCond .ge 35, 3) := by decide +kernel
theorem dX6_result_56 : decode cX6_result 56 = .ok (.iload 4, 2) := by decide +kernel
theorem dX6_result_58 : decode cX6_result 58 = .ok (.iload_n 2, 1) := by decide +kernel
theorem dX6_result_59 : decode cX6_result 59 = .ok (.if_icmp .ne 26, 3) := by decide +kernel
theorem dX6_result_62 : decode cX6_result 62 = .ok (.iload_n 3, 1) := by decide +kernel
theorem dX6_result_63 : decode cX6_result 63 = .ok (.ifCond .ne 8, 3) := by decide +kernel
theorem dX6_result_66 : decode cX6_result 66 = .ok (.iload 5, 2) := by decide +kernel
theorem dX6_result_68 : decode cX6_result 68 = .ok (.goto 16, 3) := by decide +kernel
theorem dX6_result_71 : decode cX6_result 71 = .ok (.aload_n 0, 1) := by decide +kernel
theorem dX6_result_72 : decode cX6_result 72 = .ok (.getfield 38, 3) := by decide +kernel
theorem dX6_result_75 : decode cX6_result 75 = .ok (.sipush 512, 3) := by decide +kernel
theorem dX6_result_78 : decode cX6_result 78 = .ok (.iload_n 1, 1) := by decide +kernel
theorem dX6_result_79 : decode cX6_result 79 = .ok (.imul, 1) := by decide +kernel
theorem dX6_result_80 : decode cX6_result 80 = .ok (.iload 5, 2) := by decide +kernel
theorem dX6_result_82 : decode cX6_result 82 = .ok (.iadd, 1) := by decide +kernel
theorem dX6_result_83 : decode cX6_result 83 = .ok (.iaload, 1) := by decide +kernel
theorem dX6_result_84 : decode cX6_result 84 = .ok (.ireturn, 1) := by decide +kernel
theorem dX6_result_85 : decode cX6_result 85 = .ok (.iinc 4 1, 3) := by decide +kernel
theorem dX6_result_88 : decode cX6_result 88 = .ok (.iinc 5 1, 3) := by decide +kernel
theorem dX6_result_91 : decode cX6_result 91 = .ok (.goto (-62), 3) := by decide +kernel
theorem dX6_result_94 : decode cX6_result 94 = .ok (.iconst (-1), 1) := by decide +kernel
theorem dX6_result_95 : decode cX6_result 95 = .ok (.ireturn, 1) := by decide +kernel
theorem dX6_about_0 : decode cX6_about 0 = .ok (.iload_n 1, 1) := by decide +kernel
theorem dX6_about_1 : decode cX6_about 1 = .ok (.tableswitch 59 0 3 #[31, 36, 41, 54], 31) := by decide +kernel
theorem dX6_about_32 : decode cX6_about 32 = .ok (.aload_n 0, 1) := by decide +kernel
theorem dX6_about_33 : decode cX6_about 33 = .ok (.getfield 58, 3) := by decide +kernel
theorem dX6_about_36 : decode cX6_about 36 = .ok (.ireturn, 1) := by decide +kernel
theorem dX6_about_37 : decode cX6_about 37 = .ok (.aload_n 0, 1) := by decide +kernel
theorem dX6_about_38 : decode cX6_about 38 = .ok (.invokevirtual 127, 3) := by decide +kernel
theorem dX6_about_41 : decode cX6_about 41 = .ok (.ireturn, 1) := by decide +kernel
theorem dX6_about_42 : decode cX6_about 42 = .ok (.aload_n 0, 1) := by decide +kernel
theorem dX6_about_43 : decode cX6_about 43 = .ok (.getfield 67, 3) := by decide +kernel
theorem dX6_about_46 : decode cX6_about 46 = .ok (.ifCond .eq 7, 3) := by decide +kernel
theorem dX6_about_49 : decode cX6_about 49 = .ok (.iconst 1, 1) := by decide +kernel
theorem dX6_about_50 : decode cX6_about 50 = .ok (.goto 4, 3) := by decide +kernel
theorem dX6_about_53 : decode cX6_about 53 = .ok (.iconst 0, 1) := by decide +kernel
theorem dX6_about_54 : decode cX6_about 54 = .ok (.ireturn, 1) := by decide +kernel
theorem dX6_about_55 : decode cX6_about 55 = .ok (.aload_n 0, 1) := by decide +kernel
theorem dX6_about_56 : decode cX6_about 56 = .ok (.getfield 31, 3) := by decide +kernel
theorem dX6_about_59 : decode cX6_about 59 = .ok (.ireturn, 1) := by decide +kernel
theorem dX6_about_60 : decode cX6_about 60 = .ok (.iload_n 1, 1) := by decide +kernel
theorem dX6_about_61 : decode cX6_about 61 = .ok (.bipush 10, 2) := by decide +kernel
theorem dX6_about_63 : decode cX6_about 63 = .ok (.bipush 12, 2) := by decide +kernel
theorem dX6_about_65 : decode cX6_about 65 = .ok (.invokestatic 54, 3) := by decide +kernel
theorem dX6_about_68 : decode cX6_about 68 = .ok (.ifCond .eq 15, 3) := by decide +kernel
theorem dX6_about_71 : decode cX6_about 71 = .ok (.aload_n 0, 1) := by decide +kernel
theorem dX6_about_72 : decode cX6_about 72 = .ok (.getfield 7, 3) := by decide +kernel
theorem dX6_about_75 : decode cX6_about 75 = .ok (.iload_n 1, 1) := by decide +kernel
theorem dX6_about_76 : decode cX6_about 76 = .ok (.bipush 10, 2) := by decide +kernel
theorem dX6_about_78 : decode cX6_about 78 = .ok (.isub, 1) := by decide +kernel
theorem dX6_about_79 : decode cX6_about 79 = .ok (.iaload, 1) := by decide +kernel
theorem dX6_about_80 : decode cX6_about 80 = .ok (.goto 4, 3) := by decide +kernel
theorem dX6_about_83 : decode cX6_about 83 = .ok (.iconst (-1), 1) := by decide +kernel
theorem dX6_about_84 : decode cX6_about 84 = .ok (.ireturn, 1) := by decide +kernel
