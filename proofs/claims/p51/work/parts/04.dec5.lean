theorem dX12_reached_0 : decode cX12_reached 0 = .ok (.sipush 4096, 3) := by decide +kernel
theorem dX12_reached_3 : decode cX12_reached 3 = .ok (.newarray .boolean, 2) := by decide +kernel
theorem dX12_reached_5 : decode cX12_reached 5 = .ok (.astore_n 1, 1) := by decide +kernel
theorem dX12_reached_6 : decode cX12_reached 6 = .ok (.sipush 4096, 3) := by decide +kernel
theorem dX12_reached_9 : decode cX12_reached 9 = .ok (.newarray .int, 2) := by decide +kernel
theorem dX12_reached_11 : decode cX12_reached 11 = .ok (.astore_n 2, 1) := by decide +kernel
theorem dX12_reached_12 : decode cX12_reached 12 = .ok (.iconst 0, 1) := by decide +kernel
theorem dX12_reached_13 : decode cX12_reached 13 = .ok (.istore_n 3, 1) := by decide +kernel
theorem dX12_reached_14 : decode cX12_reached 14 = .ok (.iconst (-1), 1) := by decide +kernel
theorem dX12_reached_15 : decode cX12_reached 15 = .ok (.istore 4, 2) := by decide +kernel
theorem dX12_reached_17 : decode cX12_reached 17 = .ok (.iload 4, 2) := by decide +kernel
theorem dX12_reached_19 : decode cX12_reached 19 = .ok (.bipush 8, 2) := by decide +kernel
theorem dX12_reached_21 : decode cX12_reached 21 = .ok (.if_icmp .ge 51, 3) := by decide +kernel
theorem dX12_reached_24 : decode cX12_reached 24 = .ok (.iload 4, 2) := by decide +kernel
theorem dX12_reached_26 : decode cX12_reached 26 = .ok (.ifCond .ge 12, 3) := by decide +kernel
theorem dX12_reached_29 : decode cX12_reached 29 = .ok (.aload_n 0, 1) := by decide +kernel
theorem dX12_reached_30 : decode cX12_reached 30 = .ok (.getfield 9, 3) := by decide +kernel
theorem dX12_reached_33 : decode cX12_reached 33 = .ok (.iconst 4, 1) := by decide +kernel
theorem dX12_reached_34 : decode cX12_reached 34 = .ok (.iaload, 1) := by decide +kernel
theorem dX12_reached_35 : decode cX12_reached 35 = .ok (.goto 9, 3) := by decide +kernel
theorem dX12_reached_38 : decode cX12_reached 38 = .ok (.aload_n 0, 1) := by decide +kernel
theorem dX12_reached_39 : decode cX12_reached 39 = .ok (.iload 4, 2) := by decide +kernel
theorem dX12_reached_41 : decode cX12_reached 41 = .ok (.invokevirtual 275, 3) := by decide +kernel
theorem dX12_reached_44 : decode cX12_reached 44 = .ok (.istore 5, 2) := by decide +kernel
theorem dX12_reached_46 : decode cX12_reached 46 = .ok (.aload_n 1, 1) := by decide +kernel
theorem dX12_reached_47 : decode cX12_reached 47 = .ok (.iload 5, 2) := by decide +kernel
theorem dX12_reached_49 : decode cX12_reached 49 = .ok (.baload, 1) := by decide +kernel
theorem dX12_reached_50 : decode cX12_reached 50 = .ok (.ifCond .ne 11, 3) := by decide +kernel
theorem dX12_reached_53 : decode cX12_reached 53 = .ok (.aload_n 2, 1) := by decide +kernel
theorem dX12_reached_54 : decode cX12_reached 54 = .ok (.iload_n 3, 1) := by decide +kernel
theorem dX12_reached_55 : decode cX12_reached 55 = .ok (.iinc 3 1, 3) := by decide +kernel
theorem dX12_reached_58 : decode cX12_reached 58 = .ok (.iload 5, 2) := by decide +kernel
theorem dX12_reached_60 : decode cX12_reached 60 = .ok (.iastore, 1) := by decide +kernel
theorem dX12_reached_61 : decode cX12_reached 61 = .ok (.aload_n 1, 1) := by decide +kernel
theorem dX12_reached_62 : decode cX12_reached 62 = .ok (.iload 5, 2) := by decide +kernel
theorem dX12_reached_64 : decode cX12_reached 64 = .ok (.iconst 1, 1) := by decide +kernel
theorem dX12_reached_65 : decode cX12_reached 65 = .ok (.bastore, 1) := by decide +kernel
theorem dX12_reached_66 : decode cX12_reached 66 = .ok (.iinc 4 1, 3) := by decide +kernel
theorem dX12_reached_69 : decode cX12_reached 69 = .ok (.goto (-52), 3) := by decide +kernel
theorem dX12_reached_72 : decode cX12_reached 72 = .ok (.iconst 0, 1) := by decide +kernel
theorem dX12_reached_73 : decode cX12_reached 73 = .ok (.istore 4, 2) := by decide +kernel
theorem dX12_reached_75 : decode cX12_reached 75 = .ok (.iload 4, 2) := by decide +kernel
theorem dX12_reached_77 : decode cX12_reached 77 = .ok (.iload_n 3, 1) := by decide +kernel
theorem dX12_reached_78 : decode cX12_reached 78 = .ok (.if_icmp .ge 270, 3) := by decide +kernel
theorem dX12_reached_81 : decode cX12_reached 81 = .ok (.aload_n 2, 1) := by decide +kernel
theorem dX12_reached_82 : decode cX12_reached 82 = .ok (.iload 4, 2) := by decide +kernel
theorem dX12_reached_84 : decode cX12_reached 84 = .ok (.iaload, 1) := by decide +kernel
theorem dX12_reached_85 : decode cX12_reached 85 = .ok (.istore 5, 2) := by decide +kernel
theorem dX12_reached_87 : decode cX12_reached 87 = .ok (.aload_n 0, 1) := by decide +kernel
theorem dX12_reached_88 : decode cX12_reached 88 = .ok (.iload 5, 2) := by decide +kernel
theorem dX12_reached_90 : decode cX12_reached 90 = .ok (.invokevirtual 125, 3) := by decide +kernel
theorem dX12_reached_93 : decode cX12_reached 93 = .ok (.istore 6, 2) := by decide +kernel
theorem dX12_reached_95 : decode cX12_reached 95 = .ok (.iload 6, 2) := by decide +kernel
theorem dX12_reached_97 : decode cX12_reached 97 = .ok (.invokestatic 253, 3) := by decide +kernel
theorem dX12_reached_100 : decode cX12_reached 100 = .ok (.ifCond .ne 11, 3) := by decide +kernel
theorem dX12_reached_111 : decode cX12_reached 111 = .ok (.iload 6, 2) := by decide +kernel
theorem dX12_reached_113 : decode cX12_reached 113 = .ok (.bipush 8, 2) := by decide +kernel
theorem dX12_reached_115 : decode cX12_reached 115 = .ok (.idiv, 1) := by decide +kernel
theorem dX12_reached_116 : decode cX12_reached 116 = .ok (.istore 7, 2) := by decide +kernel
theorem dX12_reached_118 : decode cX12_reached 118 = .ok (.iload 6, 2) := by decide +kernel
theorem dX12_reached_120 : decode cX12_reached 120 = .ok (.iconst 1, 1) := by decide +kernel
theorem dX12_reached_121 : decode cX12_reached 121 = .ok (.if_icmp .eq 30, 3) := by decide +kernel
theorem dX12_reached_124 : decode cX12_reached 124 = .ok (.iload 6, 2) := by decide +kernel
theorem dX12_reached_126 : decode cX12_reached 126 = .ok (.iconst 3, 1) := by decide +kernel
theorem dX12_reached_127 : decode cX12_reached 127 = .ok (.if_icmp .eq 24, 3) := by decide +kernel
theorem dX12_reached_130 : decode cX12_reached 130 = .ok (.iload 6, 2) := by decide +kernel
theorem dX12_reached_132 : decode cX12_reached 132 = .ok (.iconst 4, 1) := by decide +kernel
theorem dX12_reached_133 : decode cX12_reached 133 = .ok (.if_icmp .eq 18, 3) := by decide +kernel
theorem dX12_reached_136 : decode cX12_reached 136 = .ok (.iload 7, 2) := by decide +kernel
theorem dX12_reached_138 : decode cX12_reached 138 = .ok (.bipush 24, 2) := by decide +kernel
theorem dX12_reached_140 : decode cX12_reached 140 = .ok (.if_icmp .eq 11, 3) := by decide +kernel
theorem dX12_reached_143 : decode cX12_reached 143 = .ok (.iload 6, 2) := by decide +kernel
theorem dX12_reached_145 : decode cX12_reached 145 = .ok (.sipush 216, 3) := by decide +kernel
theorem dX12_reached_148 : decode cX12_reached 148 = .ok (.if_icmp .ne 7, 3) := by decide +kernel
theorem dX12_reached_155 : decode cX12_reached 155 = .ok (.iconst 0, 1) := by decide +kernel
theorem dX12_reached_156 : decode cX12_reached 156 = .ok (.istore 8, 2) := by decide +kernel
theorem dX12_reached_158 : decode cX12_reached 158 = .ok (.iconst 2, 1) := by decide +kernel
theorem dX12_reached_159 : decode cX12_reached 159 = .ok (.newarray .int, 2) := by decide +kernel
theorem dX12_reached_161 : decode cX12_reached 161 = .ok (.dup, 1) := by decide +kernel
theorem dX12_reached_162 : decode cX12_reached 162 = .ok (.iconst 0, 1) := by decide +kernel
theorem dX12_reached_163 : decode cX12_reached 163 = .ok (.iload 8, 2) := by decide +kernel
theorem dX12_reached_165 : decode cX12_reached 165 = .ok (.ifCond .eq 7, 3) := by decide +kernel
theorem dX12_reached_172 : decode cX12_reached 172 = .ok (.iload 5, 2) := by decide +kernel
theorem dX12_reached_174 : decode cX12_reached 174 = .ok (.iload 6, 2) := by decide +kernel
theorem dX12_reached_176 : decode cX12_reached 176 = .ok (.invokestatic 228, 3) := by decide +kernel
theorem dX12_reached_179 : decode cX12_reached 179 = .ok (.iadd, 1) := by decide +kernel
theorem dX12_reached_180 : decode cX12_reached 180 = .ok (.sipush 4095, 3) := by decide +kernel
theorem dX12_reached_183 : decode cX12_reached 183 = .ok (.iand, 1) := by decide +kernel
theorem dX12_reached_184 : decode cX12_reached 184 = .ok (.iastore, 1) := by decide +kernel
theorem dX12_reached_185 : decode cX12_reached 185 = .ok (.dup, 1) := by decide +kernel
theorem dX12_reached_186 : decode cX12_reached 186 = .ok (.iconst 1, 1) := by decide +kernel
theorem dX12_reached_187 : decode cX12_reached 187 = .ok (.iload 7, 2) := by decide +kernel
theorem dX12_reached_189 : decode cX12_reached 189 = .ok (.bipush 24, 2) := by decide +kernel
theorem dX12_reached_191 : decode cX12_reached 191 = .ok (.if_icmp .eq 10, 3) := by decide +kernel
theorem dX12_reached_194 : decode cX12_reached 194 = .ok (.iload 7, 2) := by decide +kernel
theorem dX12_reached_196 : decode cX12_reached 196 = .ok (.bipush 25, 2) := by decide +kernel
theorem dX12_reached_198 : decode cX12_reached 198 = .ok (.if_icmp .ne 40, 3) := by decide +kernel
theorem dX12_reached_238 : decode cX12_reached 238 = .ok (.iload 7, 2) := by decide +kernel
theorem dX12_reached_240 : decode cX12_reached 240 = .ok (.bipush 25, 2) := by decide +kernel
theorem dX12_reached_242 : decode cX12_reached 242 = .ok (.if_icmp .le 12, 3) := by decide +kernel
theorem dX12_reached_254 : decode cX12_reached 254 = .ok (.iload 6, 2) := by decide +kernel
theorem dX12_reached_256 : decode cX12_reached 256 = .ok (.iconst 5, 1) := by decide +kernel
theorem dX12_reached_257 : decode cX12_reached 257 = .ok (.if_icmp .ne 12, 3) := by decide +kernel
theorem dX12_reached_269 : decode cX12_reached 269 = .ok (.iconst (-1), 1) := by decide +kernel
theorem dX12_reached_270 : decode cX12_reached 270 = .ok (.iastore, 1) := by decide +kernel
theorem dX12_reached_271 : decode cX12_reached 271 = .ok (.astore 9, 2) := by decide +kernel
theorem dX12_reached_273 : decode cX12_reached 273 = .ok (.aload 9, 2) := by decide +kernel
theorem dX12_reached_275 : decode cX12_reached 275 = .ok (.astore 10, 2) := by decide +kernel
theorem dX12_reached_277 : decode cX12_reached 277 = .ok (.aload 10, 2) := by decide +kernel
theorem dX12_reached_279 : decode cX12_reached 279 = .ok (.arraylength, 1) := by decide +kernel
theorem dX12_reached_280 : decode cX12_reached 280 = .ok (.istore 11, 2) := by decide +kernel
theorem dX12_reached_282 : decode cX12_reached 282 = .ok (.iconst 0, 1) := by decide +kernel
theorem dX12_reached_283 : decode cX12_reached 283 = .ok (.istore 12, 2) := by decide +kernel
theorem dX12_reached_285 : decode cX12_reached 285 = .ok (.iload 12, 2) := by decide +kernel
theorem dX12_reached_287 : decode cX12_reached 287 = .ok (.iload 11, 2) := by decide +kernel
theorem dX12_reached_289 : decode cX12_reached 289 = .ok (.if_icmp .ge 53, 3) := by decide +kernel
theorem dX12_reached_292 : decode cX12_reached 292 = .ok (.aload 10, 2) := by decide +kernel
theorem dX12_reached_294 : decode cX12_reached 294 = .ok (.iload 12, 2) := by decide +kernel
theorem dX12_reached_296 : decode cX12_reached 296 = .ok (.iaload, 1) := by decide +kernel
theorem dX12_reached_297 : decode cX12_reached 297 = .ok (.istore 13, 2) := by decide +kernel
theorem dX12_reached_299 : decode cX12_reached 299 = .ok (.iload 13, 2) := by decide +kernel
theorem dX12_reached_301 : decode cX12_reached 301 = .ok (.ifCond .lt 35, 3) := by decide +kernel
theorem dX12_reached_304 : decode cX12_reached 304 = .ok (.aload_n 1, 1) := by decide +kernel
theorem dX12_reached_305 : decode cX12_reached 305 = .ok (.iload 13, 2) := by decide +kernel
theorem dX12_reached_307 : decode cX12_reached 307 = .ok (.baload, 1) := by decide +kernel
theorem dX12_reached_308 : decode cX12_reached 308 = .ok (.ifCond .ne 28, 3) := by decide +kernel
theorem dX12_reached_311 : decode cX12_reached 311 = .ok (.aload_n 0, 1) := by decide +kernel
theorem dX12_reached_312 : decode cX12_reached 312 = .ok (.iload 13, 2) := by decide +kernel
theorem dX12_reached_314 : decode cX12_reached 314 = .ok (.invokevirtual 125, 3) := by decide +kernel
theorem dX12_reached_317 : decode cX12_reached 317 = .ok (.invokestatic 253, 3) := by decide +kernel
theorem dX12_reached_320 : decode cX12_reached 320 = .ok (.ifCond .eq 16, 3) := by decide +kernel
theorem dX12_reached_323 : decode cX12_reached 323 = .ok (.aload_n 1, 1) := by decide +kernel
theorem dX12_reached_324 : decode cX12_reached 324 = .ok (.iload 13, 2) := by decide +kernel
theorem dX12_reached_326 : decode cX12_reached 326 = .ok (.iconst 1, 1) := by decide +kernel
theorem dX12_reached_327 : decode cX12_reached 327 = .ok (.bastore, 1) := by decide +kernel
theorem dX12_reached_328 : decode cX12_reached 328 = .ok (.aload_n 2, 1) := by decide +kernel
theorem dX12_reached_329 : decode cX12_reached 329 = .ok (.iload_n 3, 1) := by decide +kernel
theorem dX12_reached_330 : decode cX12_reached 330 = .ok (.iinc 3 1, 3) := by decide +kernel
theorem dX12_reached_333 : decode cX12_reached 333 = .ok (.iload 13, 2) := by decide +kernel
theorem dX12_reached_335 : decode cX12_reached 335 = .ok (.iastore, 1) := by decide +kernel
theorem dX12_reached_336 : decode cX12_reached 336 = .ok (.iinc 12 1, 3) := by decide +kernel
theorem dX12_reached_339 : decode cX12_reached 339 = .ok (.goto (-54), 3) := by decide +kernel
theorem dX12_reached_342 : decode cX12_reached 342 = .ok (.iinc 4 1, 3) := by decide +kernel
theorem dX12_reached_345 : decode cX12_reached 345 = .ok (.goto (-270), 3) := by decide +kernel
theorem dX12_reached_348 : decode cX12_reached 348 = .ok (.aload_n 1, 1) := by decide +kernel
theorem dX12_reached_349 : decode cX12_reached 349 = .ok (.areturn, 1) := by decide +kernel
theorem dX12_reachable_0 : decode cX12_reachable 0 = .ok (.iconst 0, 1) := by decide +kernel
theorem dX12_reachable_1 : decode cX12_reachable 1 = .ok (.istore_n 1, 1) := by decide +kernel
theorem dX12_reachable_2 : decode cX12_reachable 2 = .ok (.aload_n 0, 1) := by decide +kernel
theorem dX12_reachable_3 : decode cX12_reachable 3 = .ok (.invokevirtual 550, 3) := by decide +kernel
theorem dX12_reachable_6 : decode cX12_reachable 6 = .ok (.astore_n 2, 1) := by decide +kernel
theorem dX12_reachable_7 : decode cX12_reachable 7 = .ok (.aload_n 2, 1) := by decide +kernel
theorem dX12_reachable_8 : decode cX12_reachable 8 = .ok (.arraylength, 1) := by decide +kernel
theorem dX12_reachable_9 : decode cX12_reachable 9 = .ok (.istore_n 3, 1) := by decide +kernel
theorem dX12_reachable_10 : decode cX12_reachable 10 = .ok (.iconst 0, 1) := by decide +kernel
theorem dX12_reachable_11 : decode cX12_reachable 11 = .ok (.istore 4, 2) := by decide +kernel
theorem dX12_reachable_13 : decode cX12_reachable 13 = .ok (.iload 4, 2) := by decide +kernel
theorem dX12_reachable_15 : decode cX12_reachable 15 = .ok (.iload_n 3, 1) := by decide +kernel
theorem dX12_reachable_16 : decode cX12_reachable 16 = .ok (.if_icmp .ge 28, 3) := by decide +kernel
theorem dX12_reachable_19 : decode cX12_reachable 19 = .ok (.aload_n 2, 1) := by decide +kernel
theorem dX12_reachable_20 : decode cX12_reachable 20 = .ok (.iload 4, 2) := by decide +kernel
theorem dX12_reachable_22 : decode cX12_reachable 22 = .ok (.baload, 1) := by decide +kernel
theorem dX12_reachable_23 : decode cX12_reachable 23 = .ok (.istore 5, 2) := by decide +kernel
theorem dX12_reachable_25 : decode cX12_reachable 25 = .ok (.iload_n 1, 1) := by decide +kernel
theorem dX12_reachable_26 : decode cX12_reachable 26 = .ok (.iload 5, 2) := by decide +kernel
theorem dX12_reachable_28 : decode cX12_reachable 28 = .ok (.ifCond .eq 7, 3) := by decide +kernel
theorem dX12_reachable_31 : decode cX12_reachable 31 = .ok (.iconst 1, 1) := by decide +kernel
theorem dX12_reachable_32 : decode cX12_reachable 32 = .ok (.goto 4, 3) := by decide +kernel
theorem dX12_reachable_36 : decode cX12_reachable 36 = .ok (.iadd, 1) := by decide +kernel
theorem dX12_reachable_37 : decode cX12_reachable 37 = .ok (.istore_n 1, 1) := by decide +kernel
theorem dX12_reachable_38 : decode cX12_reachable 38 = .ok (.iinc 4 1, 3) := by decide +kernel
theorem dX12_reachable_41 : decode cX12_reachable 41 = .ok (.goto (-28), 3) := by decide +kernel
theorem dX12_reachable_44 : decode cX12_reachable 44 = .ok (.iload_n 1, 1) := by decide +kernel
theorem dX12_reachable_45 : decode cX12_reachable 45 = .ok (.ireturn, 1) := by decide +kernel
theorem dX12_codes_0 : decode cX12_codes 0 = .ok (.aload_n 0, 1) := by decide +kernel
theorem dX12_codes_1 : decode cX12_codes 1 = .ok (.iconst 0, 1) := by decide +kernel
theorem dX12_codes_2 : decode cX12_codes 2 = .ok (.putfield 93, 3) := by decide +kernel
theorem dX12_codes_5 : decode cX12_codes 5 = .ok (.aload_n 0, 1) := by decide +kernel
theorem dX12_codes_6 : decode cX12_codes 6 = .ok (.invokevirtual 554, 3) := by decide +kernel
theorem dX12_codes_9 : decode cX12_codes 9 = .ok (.ireturn, 1) := by decide +kernel
theorem dJ7_fill_53178_0 : decode cJ7_fill_53178 0 = .ok (.iconst 0, 1) := by decide +kernel
theorem dJ7_fill_53178_1 : decode cJ7_fill_53178 1 = .ok (.istore_n 2, 1) := by decide +kernel
theorem dJ7_fill_53178_2 : decode cJ7_fill_53178 2 = .ok (.aload_n 0, 1) := by decide +kernel
theorem dJ7_fill_53178_3 : decode cJ7_fill_53178 3 = .ok (.arraylength, 1) := by decide +kernel
theorem dJ7_fill_53178_4 : decode cJ7_fill_53178 4 = .ok (.istore_n 3, 1) := by decide +kernel
theorem dJ7_fill_53178_5 : decode cJ7_fill_53178 5 = .ok (.iload_n 2, 1) := by decide +kernel
theorem dJ7_fill_53178_6 : decode cJ7_fill_53178 6 = .ok (.iload_n 3, 1) := by decide +kernel
theorem dJ7_fill_53178_7 : decode cJ7_fill_53178 7 = .ok (.if_icmp .ge 13, 3) := by decide +kernel
theorem dJ7_fill_53178_10 : decode cJ7_fill_53178 10 = .ok (.aload_n 0, 1) := by decide +kernel
theorem dJ7_fill_53178_11 : decode cJ7_fill_53178 11 = .ok (.iload_n 2, 1) := by decide +kernel
theorem dJ7_fill_53178_12 : decode cJ7_fill_53178 12 = .ok (.iload_n 1, 1) := by decide +kernel
theorem dJ7_fill_53178_13 : decode cJ7_fill_53178 13 = .ok (.iastore, 1) := by decide +kernel
theorem dJ7_fill_53178_14 : decode cJ7_fill_53178 14 = .ok (.iinc 2 1, 3) := by decide +kernel
theorem dJ7_fill_53178_17 : decode cJ7_fill_53178 17 = .ok (.goto (-12), 3) := by decide +kernel
theorem dJ7_fill_53178_20 : decode cJ7_fill_53178 20 = .ok (.return_, 1) := by decide +kernel
theorem dL_law_0 : decode cL_law 0 = .ok (.new 8, 3) := by decide +kernel
theorem dL_law_3 : decode cL_law 3 = .ok (.dup, 1) := by decide +kernel
theorem dL_law_4 : decode cL_law 4 = .ok (.invokespecial 95, 3) := by decide +kernel
theorem dL_law_7 : decode cL_law 7 = .ok (.astore_n 1, 1) := by decide +kernel
theorem dL_law_8 : decode cL_law 8 = .ok (.new 96, 3) := by decide +kernel
theorem dL_law_11 : decode cL_law 11 = .ok (.dup, 1) := by decide +kernel
theorem dL_law_12 : decode cL_law 12 = .ok (.invokespecial 98, 3) := by decide +kernel
theorem dL_law_15 : decode cL_law 15 = .ok (.astore_n 2, 1) := by decide +kernel
theorem dL_law_16 : decode cL_law 16 = .ok (.iconst 1, 1) := by decide +kernel
theorem dL_law_17 : decode cL_law 17 = .ok (.newarray .long, 2) := by decide +kernel
theorem dL_law_19 : decode cL_law 19 = .ok (.astore_n 3, 1) := by decide +kernel
theorem dL_law_20 : decode cL_law 20 = .ok (.iconst 0, 1) := by decide +kernel
theorem dL_law_21 : decode cL_law 21 = .ok (.istore 4, 2) := by decide +kernel
theorem dL_law_23 : decode cL_law 23 = .ok (.iload 4, 2) := by decide +kernel
theorem dL_law_25 : decode cL_law 25 = .ok (.aload_n 0, 1) := by decide +kernel
theorem dL_law_26 : decode cL_law 26 = .ok (.arraylength, 1) := by decide +kernel
theorem dL_law_27 : decode cL_law 27 = .ok (.bipush 6, 2) := by decide +kernel
theorem dL_law_29 : decode cL_law 29 = .ok (.isub, 1) := by decide +kernel
theorem dL_law_30 : decode cL_law 30 = .ok (.if_icmp .gt 1606, 3) := by decide +kernel
theorem dL_law_33 : decode cL_law 33 = .ok (.aload_n 0, 1) := by decide +kernel
theorem dL_law_34 : decode cL_law 34 = .ok (.iload 4, 2) := by decide +kernel
theorem dL_law_36 : decode cL_law 36 = .ok (.iaload, 1) := by decide +kernel
theorem dL_law_37 : decode cL_law 37 = .ok (.bipush 63, 2) := by decide +kernel
theorem dL_law_39 : decode cL_law 39 = .ok (.iand, 1) := by decide +kernel
theorem dL_law_40 : decode cL_law 40 = .ok (.tableswitch 1590 0 56 #[244, 320, 348, 361, 374, 387, 415, 443, 471, 484, 512, 525, 538, 578, 618, 631, 659, 672, 685, 713, 726, 739, 779, 804, 900, 913, 926, 939, 952, 965, 978, 991, 1004, 1017, 1045, 1085, 1098, 1111, 1124, 1137, 1150, 1163, 1191, 1204, 1232, 1260, 1273, 1301, 1329, 1357, 1413, 1453, 1481, 1521, 1549, 1562, 1577], 244) := by decide +kernel
theorem dL_law_1589 : decode cL_law 1589 = .ok (.aload_n 1, 1) := by decide +kernel
theorem dL_law_1590 : decode cL_law 1590 = .ok (.invokevirtual 301, 3) := by decide +kernel
theorem dL_law_1593 : decode cL_law 1593 = .ok (.pop, 1) := by decide +kernel
theorem dL_law_1594 : decode cL_law 1594 = .ok (.aload_n 2, 1) := by decide +kernel
theorem dL_law_1595 : decode cL_law 1595 = .ok (.invokevirtual 304, 3) := by decide +kernel
theorem dL_law_1598 : decode cL_law 1598 = .ok (.pop, 1) := by decide +kernel
theorem dL_law_1599 : decode cL_law 1599 = .ok (.goto 31, 3) := by decide +kernel
theorem dL_law_1630 : decode cL_law 1630 = .ok (.iinc 4 6, 3) := by decide +kernel
theorem dL_law_1633 : decode cL_law 1633 = .ok (.goto (-1610), 3) := by decide +kernel
theorem dL_law_1636 : decode cL_law 1636 = .ok (.iconst 1, 1) := by decide +kernel
theorem dL_law_1637 : decode cL_law 1637 = .ok (.ireturn, 1) := by decide +kernel

