theorem dX12_reached_58 : decode cX12_reached 58 = .ok (.iload 5, 2) := by decide +kernel
theorem dX12_reached_60 : decode cX12_reached 60 = .ok (.iastore, 1) := by decide +kernel
theorem dX12_reached_61 : decode cX12_reached 61 = .ok (.aload_n 1, 1) := by decide +kernel
theorem dX12_reached_62 : decode cX12_reached 62 = .ok (.iload 5, 2) := by decide +kernel
theorem dX12_reached_64 : decode cX12_reached 64 = .ok (.iconst 1, 1) := by decide +kernel
theorem dX12_reached_65 : decode cX12_reached 65 = .ok (.bastore, 1) := by decide +kernel
theorem dX12_reached_66 : decode cX12_reached 66 = .ok (.iinc 4 1, 3) := by decide +kernel
theorem dX12_reached_69 : decode cX12_reached 69 = .ok (.goto (-52), 3) := by decide +kernel
theorem dX12_reached_72 : decode cX12_reached 72 = .ok (.iconst 0, 1) := by decide +kernel
theorem dX12_reached_73 : decode cX12_reached 73 = .ok (.istore 4, 2) := by decide +kernel
theorem dX12_reached_75 : decode cX12_reached 75 = .ok (.iload 4, 2) := by decide +kernel
theorem dX12_reached_77 : decode cX12_reached 77 = .ok (.iload_n 3, 1) := by decide +kernel
theorem dX12_reached_78 : decode cX12_reached 78 = .ok (.if_icmp .ge 270, 3) := by decide +kernel
theorem dX12_reached_81 : decode cX12_reached 81 = .ok (.aload_n 2, 1) := by decide +kernel
theorem dX12_reached_82 : decode cX12_reached 82 = .ok (.iload 4, 2) := by decide +kernel
theorem dX12_reached_84 : decode cX12_reached 84 = .ok (.iaload, 1) := by decide +kernel
theorem dX12_reached_85 : decode cX12_reached 85 = .ok (.istore 5, 2) := by decide +kernel
theorem dX12_reached_87 : decode cX12_reached 87 = .ok (.aload_n 0, 1) := by decide +kernel
theorem dX12_reached_88 : decode cX12_reached 88 = .ok (.iload 5, 2) := by decide +kernel
theorem dX12_reached_90 : decode cX12_reached 90 = .ok (.invokevirtual 125, 3) := by decide +kernel
theorem dX12_reached_93 : decode cX12_reached 93 = .ok (.istore 6, 2) := by decide +kernel
theorem dX12_reached_95 : decode cX12_reached 95 = .ok (.iload 6, 2) := by decide +kernel
theorem dX12_reached_97 : decode cX12_reached 97 = .ok (.invokestatic 253, 3) := by decide +kernel
theorem dX12_reached_100 : decode cX12_reached 100 = .ok (.ifCond .ne 11, 3) := by decide +kernel
theorem dX12_reached_103 : decode cX12_reached 103 = .ok (.aload_n 1, 1) := by decide +kernel
theorem dX12_reached_104 : decode cX12_reached 104 = .ok (.iload 5, 2) := by decide +kernel
theorem dX12_reached_106 : decode cX12_reached 106 = .ok (.iconst 0, 1) := by decide +kernel
theorem dX12_reached_107 : decode cX12_reached 107 = .ok (.bastore, 1) := by decide +kernel
theorem dX12_reached_108 : decode cX12_reached 108 = .ok (.goto 234, 3) := by decide +kernel
theorem dX12_reached_111 : decode cX12_reached 111 = .ok (.iload 6, 2) := by decide +kernel
theorem dX12_reached_113 : decode cX12_reached 113 = .ok (.bipush 8, 2) := by decide +kernel
theorem dX12_reached_115 : decode cX12_reached 115 = .ok (.idiv, 1) := by decide +kernel
theorem dX12_reached_116 : decode cX12_reached 116 = .ok (.istore 7, 2) := by decide +kernel
theorem dX12_reached_118 : decode cX12_reached 118 = .ok (.iload 6, 2) := by decide +kernel
theorem dX12_reached_120 : decode cX12_reached 120 = .ok (.iconst 1, 1) := by decide +kernel
theorem dX12_reached_121 : decode cX12_reached 121 = .ok (.if_icmp .eq 30, 3) := by decide +kernel
theorem dX12_reached_124 : decode cX12_reached 124 = .ok (.iload 6, 2) := by decide +kernel
theorem dX12_reached_126 : decode cX12_reached 126 = .ok (.iconst 3, 1) := by decide +kernel
theorem dX12_reached_127 : decode cX12_reached 127 = .ok (.if_icmp .eq 24, 3) := by decide +kernel
theorem dX12_reached_130 : decode cX12_reached 130 = .ok (.iload 6, 2) := by decide +kernel
theorem dX12_reached_132 : decode cX12_reached 132 = .ok (.iconst 4, 1) := by decide +kernel
theorem dX12_reached_133 : decode cX12_reached 133 = .ok (.if_icmp .eq 18, 3) := by decide +kernel
theorem dX12_reached_136 : decode cX12_reached 136 = .ok (.iload 7, 2) := by decide +kernel
theorem dX12_reached_138 : decode cX12_reached 138 = .ok (.bipush 24, 2) := by decide +kernel
theorem dX12_reached_140 : decode cX12_reached 140 = .ok (.if_icmp .eq 11, 3) := by decide +kernel
theorem dX12_reached_143 : decode cX12_reached 143 = .ok (.iload 6, 2) := by decide +kernel
theorem dX12_reached_145 : decode cX12_reached 145 = .ok (.sipush 216, 3) := by decide +kernel
theorem dX12_reached_148 : decode cX12_reached 148 = .ok (.if_icmp .ne 7, 3) := by decide +kernel
theorem dX12_reached_151 : decode cX12_reached 151 = .ok (.iconst 1, 1) := by decide +kernel
theorem dX12_reached_152 : decode cX12_reached 152 = .ok (.goto 4, 3) := by decide +kernel
theorem dX12_reached_155 : decode cX12_reached 155 = .ok (.iconst 0, 1) := by decide +kernel
theorem dX12_reached_156 : decode cX12_reached 156 = .ok (.istore 8, 2) := by decide +kernel
theorem dX12_reached_158 : decode cX12_reached 158 = .ok (.iconst 2, 1) := by decide +kernel
theorem dX12_reached_159 : decode cX12_reached 159 = .ok (.newarray .int, 2) := by decide +kernel
theorem dX12_reached_161 : decode cX12_reached 161 = .ok (.dup, 1) := by decide +kernel
theorem dX12_reached_162 : decode cX12_reached 162 = .ok (.iconst 0, 1) := by decide +kernel
theorem dX12_reached_163 : decode cX12_reached 163 = .ok (.iload 8, 2) := by decide +kernel
theorem dX12_reached_165 : decode cX12_reached 165 = .ok (.ifCond .eq 7, 3) := by decide +kernel
theorem dX12_reached_168 : decode cX12_reached 168 = .ok (.iconst (-1), 1) := by decide +kernel
theorem dX12_reached_169 : decode cX12_reached 169 = .ok (.goto 15, 3) := by decide +kernel
theorem dX12_reached_172 : decode cX12_reached 172 = .ok (.iload 5, 2) := by decide +kernel
theorem dX12_reached_174 : decode cX12_reached 174 = .ok (.iload 6, 2) := by decide +kernel
theorem dX12_reached_176 : decode cX12_reached 176 = .ok (.invokestatic 228, 3) := by decide +kernel
theorem dX12_reached_179 : decode cX12_reached 179 = .ok (.iadd, 1) := by decide +kernel
theorem dX12_reached_180 : decode cX12_reached 180 = .ok (.sipush 4095, 3) := by decide +kernel
theorem dX12_reached_183 : decode cX12_reached 183 = .ok (.iand, 1) := by decide +kernel
theorem dX12_reached_184 : decode cX12_reached 184 = .ok (.iastore, 1) := by decide +kernel
theorem dX12_reached_185 : decode cX12_reached 185 = .ok (.dup, 1) := by decide +kernel
theorem dX12_reached_186 : decode cX12_reached 186 = .ok (.iconst 1, 1) := by decide +kernel
theorem dX12_reached_187 : decode cX12_reached 187 = .ok (.iload 7, 2) := by decide +kernel
theorem dX12_reached_189 : decode cX12_reached 189 = .ok (.bipush 24, 2) := by decide +kernel
theorem dX12_reached_191 : decode cX12_reached 191 = .ok (.if_icmp .eq 10, 3) := by decide +kernel
theorem dX12_reached_194 : decode cX12_reached 194 = .ok (.iload 7, 2) := by decide +kernel
theorem dX12_reached_196 : decode cX12_reached 196 = .ok (.bipush 25, 2) := by decide +kernel
theorem dX12_reached_198 : decode cX12_reached 198 = .ok (.if_icmp .ne 40, 3) := by decide +kernel
theorem dX12_reached_201 : decode cX12_reached 201 = .ok (.iload 6, 2) := by decide +kernel
theorem dX12_reached_203 : decode cX12_reached 203 = .ok (.bipush 8, 2) := by decide +kernel
theorem dX12_reached_205 : decode cX12_reached 205 = .ok (.irem, 1) := by decide +kernel
theorem dX12_reached_206 : decode cX12_reached 206 = .ok (.iconst 3, 1) := by decide +kernel
theorem dX12_reached_207 : decode cX12_reached 207 = .ok (.if_icmp .ne 31, 3) := by decide +kernel
theorem dX12_reached_210 : decode cX12_reached 210 = .ok (.aload_n 0, 1) := by decide +kernel
theorem dX12_reached_211 : decode cX12_reached 211 = .ok (.iload 5, 2) := by decide +kernel
theorem dX12_reached_213 : decode cX12_reached 213 = .ok (.iconst 1, 1) := by decide +kernel
theorem dX12_reached_214 : decode cX12_reached 214 = .ok (.iadd, 1) := by decide +kernel
theorem dX12_reached_215 : decode cX12_reached 215 = .ok (.invokevirtual 125, 3) := by decide +kernel
theorem dX12_reached_218 : decode cX12_reached 218 = .ok (.sipush 256, 3) := by decide +kernel
theorem dX12_reached_221 : decode cX12_reached 221 = .ok (.aload_n 0, 1) := by decide +kernel
theorem dX12_reached_222 : decode cX12_reached 222 = .ok (.iload 5, 2) := by decide +kernel
theorem dX12_reached_224 : decode cX12_reached 224 = .ok (.iconst 2, 1) := by decide +kernel
theorem dX12_reached_225 : decode cX12_reached 225 = .ok (.iadd, 1) := by decide +kernel
theorem dX12_reached_226 : decode cX12_reached 226 = .ok (.invokevirtual 125, 3) := by decide +kernel
theorem dX12_reached_229 : decode cX12_reached 229 = .ok (.imul, 1) := by decide +kernel
theorem dX12_reached_230 : decode cX12_reached 230 = .ok (.iadd, 1) := by decide +kernel
theorem dX12_reached_231 : decode cX12_reached 231 = .ok (.sipush 4095, 3) := by decide +kernel
theorem dX12_reached_234 : decode cX12_reached 234 = .ok (.iand, 1) := by decide +kernel
theorem dX12_reached_235 : decode cX12_reached 235 = .ok (.goto 35, 3) := by decide +kernel
theorem dX12_reached_238 : decode cX12_reached 238 = .ok (.iload 7, 2) := by decide +kernel
theorem dX12_reached_240 : decode cX12_reached 240 = .ok (.bipush 25, 2) := by decide +kernel
theorem dX12_reached_242 : decode cX12_reached 242 = .ok (.if_icmp .le 12, 3) := by decide +kernel
theorem dX12_reached_245 : decode cX12_reached 245 = .ok (.aload_n 0, 1) := by decide +kernel
theorem dX12_reached_246 : decode cX12_reached 246 = .ok (.iload 5, 2) := by decide +kernel
theorem dX12_reached_248 : decode cX12_reached 248 = .ok (.invokevirtual 537, 3) := by decide +kernel
theorem dX12_reached_251 : decode cX12_reached 251 = .ok (.goto 19, 3) := by decide +kernel
theorem dX12_reached_254 : decode cX12_reached 254 = .ok (.iload 6, 2) := by decide +kernel
theorem dX12_reached_256 : decode cX12_reached 256 = .ok (.iconst 5, 1) := by decide +kernel
theorem dX12_reached_257 : decode cX12_reached 257 = .ok (.if_icmp .ne 12, 3) := by decide +kernel
theorem dX12_reached_260 : decode cX12_reached 260 = .ok (.aload_n 0, 1) := by decide +kernel
theorem dX12_reached_261 : decode cX12_reached 261 = .ok (.bipush 6, 2) := by decide +kernel
theorem dX12_reached_263 : decode cX12_reached 263 = .ok (.invokevirtual 275, 3) := by decide +kernel
theorem dX12_reached_266 : decode cX12_reached 266 = .ok (.goto 4, 3) := by decide +kernel
theorem dX12_reached_269 : decode cX12_reached 269 = .ok (.iconst (-1), 1) := by decide +kernel
theorem dX12_reached_270 : decode cX12_reached 270 = .ok (.iastore, 1) := by decide +kernel
theorem dX12_reached_271 : decode cX12_reached 271 = .ok (.astore 9, 2) := by decide +kernel
theorem dX12_reached_273 : decode cX12_reached 273 = .ok (.aload 9, 2) := by decide +kernel
theorem dX12_reached_275 : decode cX12_reached 275 = .ok (.astore 10, 2) := by decide +kernel
theorem dX12_reached_277 : decode cX12_reached 277 = .ok (.aload 10, 2) := by decide +kernel
theorem dX12_reached_279 : decode cX12_reached 279 = .ok (.arraylength, 1) := by decide +kernel
theorem dX12_reached_280 : decode cX12_reached 280 = .ok (.istore 11, 2) := by decide +kernel
theorem dX12_reached_282 : decode cX12_reached 282 = .ok (.iconst 0, 1) := by decide +kernel
theorem dX12_reached_283 : decode cX12_reached 283 = .ok (.istore 12, 2) := by decide +kernel
theorem dX12_reached_285 : decode cX12_reached 285 = .ok (.iload 12, 2) := by decide +kernel
theorem dX12_reached_287 : decode cX12_reached 287 = .ok (.iload 11, 2) := by decide +kernel
theorem dX12_reached_289 : decode cX12_reached 289 = .ok (.if_icmp .ge 53, 3) := by decide +kernel
theorem dX12_reached_292 : decode cX12_reached 292 = .ok (.aload 10, 2) := by decide +kernel
theorem dX12_reached_294 : decode cX12_reached 294 = .ok (.iload 12, 2) := by decide +kernel
theorem dX12_reached_296 : decode cX12_reached 296 = .ok (.iaload, 1) := by decide +kernel
theorem dX12_reached_297 : decode cX12_reached 297 = .ok (.istore 13, 2) := by decide +kernel
theorem dX12_reached_299 : decode cX12_reached 299 = .ok (.iload 13, 2) := by decide +kernel
theorem dX12_reached_301 : decode cX12_reached 301 = .ok (.ifCond .lt 35, 3) := by decide +kernel
theorem dX12_reached_304 : decode cX12_reached 304 = .ok (.aload_n 1, 1) := by decide +kernel
theorem dX12_reached_305 : decode cX12_reached 305 = .ok (.iload 13, 2) := by decide +kernel
theorem dX12_reached_307 : decode cX12_reached 307 = .ok (.baload, 1) := by decide +kernel
theorem dX12_reached_308 : decode cX12_reached 308 = .ok (.ifCond .ne 28, 3) := by decide +kernel
theorem dX12_reached_311 : decode cX12_reached 311 = .ok (.aload_n 0, 1) := by decide +kernel
theorem dX12_reached_312 : decode cX12_reached 312 = .ok (.iload 13, 2) := by decide +kernel
theorem dX12_reached_314 : decode cX12_reached 314 = .ok (.invokevirtual 125, 3) := by decide +kernel
theorem dX12_reached_317 : decode cX12_reached 317 = .ok (.invokestatic 253, 3) := by decide +kernel
theorem dX12_reached_320 : decode cX12_reached 320 = .ok (.ifCond .eq 16, 3) := by decide +kernel
theorem dX12_reached_323 : decode cX12_reached 323 = .ok (.aload_n 1, 1) := by decide +kernel
theorem dX12_reached_324 : decode cX12_reached 324 = .ok (.iload 13, 2) := by decide +kernel
theorem dX12_reached_326 : decode cX12_reached 326 = .ok (.iconst 1, 1) := by decide +kernel
theorem dX12_reached_327 : decode cX12_reached 327 = .ok (.bastore, 1) := by decide +kernel
theorem dX12_reached_328 : decode cX12_reached 328 = .ok (.aload_n 2, 1) := by decide +kernel
theorem dX12_reached_329 : decode cX12_reached 329 = .ok (.iload_n 3, 1) := by decide +kernel
theorem dX12_reached_330 : decode cX12_reached 330 = .ok (.iinc 3 1, 3) := by decide +kernel
theorem dX12_reached_333 : decode cX12_reached 333 = .ok (.iload 13, 2) := by decide +kernel
theorem dX12_reached_335 : decode cX12_reached 335 = .ok (.iastore, 1) := by decide +kernel
theorem dX12_reached_336 : decode cX12_reached 336 = .ok (.iinc 12 1, 3) := by decide +kernel
theorem dX12_reached_339 : decode cX12_reached 339 = .ok (.goto (-54), 3) := by decide +kernel
theorem dX12_reached_342 : decode cX12_reached 342 = .ok (.iinc 4 1, 3) := by decide +kernel
theorem dX12_reached_345 : decode cX12_reached 345 = .ok (.goto (-270), 3) := by decide +kernel
theorem dX12_reached_348 : decode cX12_reached 348 = .ok (.aload_n 1, 1) := by decide +kernel
theorem dX12_reached_349 : decode cX12_reached 349 = .ok (.areturn, 1) := by decide +kernel
theorem dX12_isCode_0 : decode cX12_isCode 0 = .ok (.aload_n 0, 1) := by decide +kernel
theorem dX12_isCode_1 : decode cX12_isCode 1 = .ok (.iload_n 1, 1) := by decide +kernel
theorem dX12_isCode_2 : decode cX12_isCode 2 = .ok (.iconst 0, 1) := by decide +kernel
theorem dX12_isCode_3 : decode cX12_isCode 3 = .ok (.sipush 4095, 3) := by decide +kernel
theorem dX12_isCode_6 : decode cX12_isCode 6 = .ok (.invokevirtual 504, 3) := by decide +kernel
theorem dX12_isCode_9 : decode cX12_isCode 9 = .ok (.ifCond .ne 16, 3) := by decide +kernel
theorem dX12_isCode_12 : decode cX12_isCode 12 = .ok (.aload_n 0, 1) := by decide +kernel
theorem dX12_isCode_13 : decode cX12_isCode 13 = .ok (.invokevirtual 550, 3) := by decide +kernel
theorem dX12_isCode_16 : decode cX12_isCode 16 = .ok (.iload_n 1, 1) := by decide +kernel
theorem dX12_isCode_17 : decode cX12_isCode 17 = .ok (.baload, 1) := by decide +kernel
theorem dX12_isCode_18 : decode cX12_isCode 18 = .ok (.ifCond .eq 7, 3) := by decide +kernel
theorem dX12_isCode_21 : decode cX12_isCode 21 = .ok (.iconst 1, 1) := by decide +kernel
theorem dX12_isCode_22 : decode cX12_isCode 22 = .ok (.goto 4, 3) := by decide +kernel
theorem dX12_isCode_25 : decode cX12_isCode 25 = .ok (.iconst 0, 1) := by decide +kernel
theorem dX12_isCode_26 : decode cX12_isCode 26 = .ok (.ireturn, 1) := by decide +kernel
theorem dX12_reachable_0 : decode cX12_reachable 0 = .ok (.iconst 0, 1) := by decide +kernel
theorem dX12_reachable_1 : decode cX12_reachable 1 = .ok (.istore_n 1, 1) := by decide +kernel
theorem dX12_reachable_2 : decode cX12_reachable 2 = .ok (.aload_n 0, 1) := by decide +kernel
theorem dX12_reachable_3 : decode cX12_reachable 3 = .ok (.invokevirtual 550, 3) := by decide +kernel
theorem dX12_reachable_6 : decode cX12_reachable 6 = .ok (.astore_n 2, 1) := by decide +kernel
theorem dX12_reachable_7 : decode cX12_reachable 7 = .ok (.aload_n 2, 1) := by decide +kernel
theorem dX12_reachable_8 : decode cX12_reachable 8 = .ok (.arraylength, 1) := by decide +kernel
theorem dX12_reachable_9 : decode cX12_reachable 9 = .ok (.istore_n 3, 1) := by decide +kernel
theorem dX12_reachable_10 : decode cX12_reachable 10 = .ok (.iconst 0, 1) := by decide +kernel
theorem dX12_reachable_11 : decode cX12_reachable 11 = .ok (.istore 4, 2) := by decide +kernel
theorem dX12_reachable_13 : decode cX12_reachable 13 = .ok (.iload 4, 2) := by decide +kernel
theorem dX12_reachable_15 : decode cX12_reachable 15 = .ok (.iload_n 3, 1) := by decide +kernel
theorem dX12_reachable_16 : decode cX12_reachable 16 = .ok (.if_icmp .ge 28, 3) := by decide +kernel
theorem dX12_reachable_19 : decode cX12_reachable 19 = .ok (.aload_n 2, 1) := by decide +kernel
theorem dX12_reachable_20 : decode cX12_reachable 20 = .ok (.iload 4, 2) := by decide +kernel
theorem dX12_reachable_22 : decode cX12_reachable 22 = .ok (.baload, 1) := by decide +kernel
theorem dX12_reachable_23 : decode cX12_reachable 23 = .ok (.istore 5, 2) := by decide +kernel
theorem dX12_reachable_25 : decode cX12_reachable 25 = .ok (.iload_n 1, 1) := by decide +kernel
theorem dX12_reachable_26 : decode cX12_reachable 26 = .ok (.iload 5, 2) := by decide +kernel
theorem dX12_reachable_28 : decode cX12_reachable 28 = .ok (.ifCond .eq 7, 3) := by decide +kernel
theorem dX12_reachable_31 : decode cX12_reachable 31 = .ok (.iconst 1, 1) := by decide +kernel
theorem dX12_reachable_32 : decode cX12_reachable 32 = .ok (.goto 4, 3) := by decide +kernel
theorem dX12_reachable_35 : decode cX12_reachable 35 = .ok (.iconst 0, 1) := by decide +kernel
theorem dX12_reachable_36 : decode cX12_reachable 36 = .ok (.iadd, 1) := by decide +kernel
theorem dX12_reachable_37 : decode cX12_reachable 37 = .ok (.istore_n 1, 1) := by decide +kernel
theorem dX12_reachable_38 : decode cX12_reachable 38 = .ok (.iinc 4 1, 3) := by decide +kernel
theorem dX12_reachable_41 : decode cX12_reachable 41 = .ok (.goto (-28), 3) := by decide +kernel
theorem dX12_reachable_44 : decode cX12_reachable 44 = .ok (.iload_n 1, 1) := by decide +kernel
theorem dX12_reachable_45 : decode cX12_reachable 45 = .ok (.ireturn, 1) := by decide +kernel
theorem dX12_codes_0 : decode cX12_codes 0 = .ok (.aload_n 0, 1) := by decide +kernel
theorem dX12_codes_1 : decode cX12_codes 1 = .ok (.iconst 0, 1) := by decide +kernel
theorem dX12_codes_2 : decode cX12_codes 2 = .ok (.putfield 93, 3) := by decide +kernel
theorem dX12_codes_5 : decode cX12_codes 5 = .ok (.aload_n 0, 1) := by decide +kernel
theorem dX12_codes_6 : decode cX12_codes 6 = .ok (.invokevirtual 554, 3) := by decide +kernel
theorem dX12_codes_9 : decode cX12_codes 9 = .ok (.ireturn, 1) := by decide +kernel
theorem dX12_meanCycles_0 : decode cX12_meanCycles 0 = .ok (.aload_n 0, 1) := by decide +kernel
theorem dX12_meanCycles_1 : decode cX12_meanCycles 1 = .ok (.iconst 0, 1) := by decide +kernel
theorem dX12_meanCycles_2 : decode cX12_meanCycles 2 = .ok (.putfield 93, 3) := by decide +kernel
theorem dX12_meanCycles_5 : decode cX12_meanCycles 5 = .ok (.aload_n 0, 1) := by decide +kernel
theorem dX12_meanCycles_6 : decode cX12_meanCycles 6 = .ok (.getfield 9, 3) := by decide +kernel
theorem dX12_meanCycles_9 : decode cX12_meanCycles 9 = .ok (.bipush 8, 2) := by decide +kernel
theorem dX12_meanCycles_11 : decode cX12_meanCycles 11 = .ok (.iaload, 1) := by decide +kernel
theorem dX12_meanCycles_12 : decode cX12_meanCycles 12 = .ok (.ifCond .ne 7, 3) := by decide +kernel
theorem dX12_meanCycles_15 : decode cX12_meanCycles 15 = .ok (.dconst 0, 1) := by decide +kernel
theorem dX12_meanCycles_16 : decode cX12_meanCycles 16 = .ok (.goto 20, 3) := by decide +kernel
theorem dX12_meanCycles_19 : decode cX12_meanCycles 19 = .ok (.aload_n 0, 1) := by decide +kernel
theorem dX12_meanCycles_20 : decode cX12_meanCycles 20 = .ok (.getfield 9, 3) := by decide +kernel
theorem dX12_meanCycles_23 : decode cX12_meanCycles 23 = .ok (.bipush 7, 2) := by decide +kernel
theorem dX12_meanCycles_25 : decode cX12_meanCycles 25 = .ok (.iaload, 1) := by decide +kernel
theorem dX12_meanCycles_26 : decode cX12_meanCycles 26 = .ok (.i2d, 1) := by decide +kernel
theorem dX12_meanCycles_27 : decode cX12_meanCycles 27 = .ok (.aload_n 0, 1) := by decide +kernel
theorem dX12_meanCycles_28 : decode cX12_meanCycles 28 = .ok (.getfield 9, 3) := by decide +kernel
theorem dX12_meanCycles_31 : decode cX12_meanCycles 31 = .ok (.bipush 8, 2) := by decide +kernel
theorem dX12_meanCycles_33 : decode cX12_meanCycles 33 = .ok (.iaload, 1) := by decide +kernel
theorem dX12_meanCycles_34 : decode cX12_meanCycles 34 = .ok (.i2d, 1) := by decide +kernel
theorem dX12_meanCycles_35 : decode cX12_meanCycles 35 = .ok (.ddiv, 1) := by decide +kernel
theorem dX12_meanCycles_36 : decode cX12_meanCycles 36 = .ok (.dreturn, 1) := by decide +kernel
theorem dX12_add__0 : decode cX12_add_ 0 = .ok (.lload_n 0, 1) := by decide +kernel
theorem dX12_add__1 : decode cX12_add_ 1 = .ok (.ldc2_w 557, 3) := by decide +kernel
theorem dX12_add__4 : decode cX12_add_ 4 = .ok (.lmul, 1) := by decide +kernel
theorem dX12_add__5 : decode cX12_add_ 5 = .ok (.lload_n 2, 1) := by decide +kernel
theorem dX12_add__6 : decode cX12_add_ 6 = .ok (.ladd, 1) := by decide +kernel
theorem dX12_add__7 : decode cX12_add_ 7 = .ok (.lreturn, 1) := by decide +kernel
theorem dX12_digest_0 : decode cX12_digest 0 = .ok (.aload_n 0, 1) := by decide +kernel
theorem dX12_digest_1 : decode cX12_digest 1 = .ok (.iconst 0, 1) := by decide +kernel
theorem dX12_digest_2 : decode cX12_digest 2 = .ok (.putfield 93, 3) := by decide +kernel
theorem dX12_digest_5 : decode cX12_digest 5 = .ok (.bipush 17, 2) := by decide +kernel
theorem dX12_digest_7 : decode cX12_digest 7 = .ok (.newarray .int, 2) := by decide +kernel
theorem dX12_digest_9 : decode cX12_digest 9 = .ok (.dup, 1) := by decide +kernel
theorem dX12_digest_10 : decode cX12_digest 10 = .ok (.iconst 0, 1) := by decide +kernel
theorem dX12_digest_11 : decode cX12_digest 11 = .ok (.aload_n 0, 1) := by decide +kernel
theorem dX12_digest_12 : decode cX12_digest 12 = .ok (.getfield 9, 3) := by decide +kernel
theorem dX12_digest_15 : decode cX12_digest 15 = .ok (.iconst 0, 1) := by decide +kernel
theorem dX12_digest_16 : decode cX12_digest 16 = .ok (.iaload, 1) := by decide +kernel
theorem dX12_digest_17 : decode cX12_digest 17 = .ok (.iastore, 1) := by decide +kernel
theorem dX12_digest_18 : decode cX12_digest 18 = .ok (.dup, 1) := by decide +kernel
theorem dX12_digest_19 : decode cX12_digest 19 = .ok (.iconst 1, 1) := by decide +kernel
theorem dX12_digest_20 : decode cX12_digest 20 = .ok (.aload_n 0, 1) := by decide +kernel
theorem dX12_digest_21 : decode cX12_digest 21 = .ok (.getfield 9, 3) := by decide +kernel
theorem dX12_digest_24 : decode cX12_digest 24 = .ok (.iconst 1, 1) := by decide +kernel
theorem dX12_digest_25 : decode cX12_digest 25 = .ok (.iaload, 1) := by decide +kernel
theorem dX12_digest_26 : decode cX12_digest 26 = .ok (.iastore, 1) := by decide +kernel
theorem dX12_digest_27 : decode cX12_digest 27 = .ok (.dup, 1) := by decide +kernel
theorem dX12_digest_28 : decode cX12_digest 28 = .ok (.iconst 2, 1) := by decide +kernel
theorem dX12_digest_29 : decode cX12_digest 29 = .ok (.aload_n 0, 1) := by decide +kernel
theorem dX12_digest_30 : decode cX12_digest 30 = .ok (.getfield 9, 3) := by decide +kernel
theorem dX12_digest_33 : decode cX12_digest 33 = .ok (.iconst 2, 1) := by decide +kernel
theorem dX12_digest_34 : decode cX12_digest 34 = .ok (.iaload, 1) := by decide +kernel
theorem dX12_digest_35 : decode cX12_digest 35 = .ok (.iastore, 1) := by decide +kernel
theorem dX12_digest_36 : decode cX12_digest 36 = .ok (.dup, 1) := by decide +kernel
theorem dX12_digest_37 : decode cX12_digest 37 = .ok (.iconst 3, 1) := by decide +kernel
theorem dX12_digest_38 : decode cX12_digest 38 = .ok (.aload_n 0, 1) := by decide +kernel
theorem dX12_digest_39 : decode cX12_digest 39 = .ok (.getfield 9, 3) := by decide +kernel
theorem dX12_digest_42 : decode cX12_digest 42 = .ok (.iconst 3, 1) := by decide +kernel
theorem dX12_digest_43 : decode cX12_digest 43 = .ok (.iaload, 1) := by decide +kernel
theorem dX12_digest_44 : decode cX12_digest 44 = .ok (.iastore, 1) := by decide +kernel
theorem dX12_digest_45 : decode cX12_digest 45 = .ok (.dup, 1) := by decide +kernel
theorem dX12_digest_46 : decode cX12_digest 46 = .ok (.iconst 4, 1) := by decide +kernel
theorem dX12_digest_47 : decode cX12_digest 47 = .ok (.aload_n 0, 1) := by decide +kernel
theorem dX12_digest_48 : decode cX12_digest 48 = .ok (.getfield 9, 3) := by decide +kernel
theorem dX12_digest_51 : decode cX12_digest 51 = .ok (.iconst 4, 1) := by decide +kernel
theorem dX12_digest_52 : decode cX12_digest 52 = .ok (.iaload, 1) := by decide +kernel
theorem dX12_digest_53 : decode cX12_digest 53 = .ok (.iastore, 1) := by decide +kernel
theorem dX12_digest_54 : decode cX12_digest 54 = .ok (.dup, 1) := by decide +kernel
theorem dX12_digest_55 : decode cX12_digest 55 = .ok (.iconst 5, 1) := by decide +kernel
theorem dX12_digest_56 : decode cX12_digest 56 = .ok (.aload_n 0, 1) := by decide +kernel
theorem dX12_digest_57 : decode cX12_digest 57 = .ok (.getfield 9, 3) := by decide +kernel
theorem dX12_digest_60 : decode cX12_digest 60 = .ok (.iconst 5, 1) := by decide +kernel
theorem dX12_digest_61 : decode cX12_digest 61 = .ok (.iaload, 1) := by decide +kernel
theorem dX12_digest_62 : decode cX12_digest 62 = .ok (.iastore, 1) := by decide +kernel
theorem dX12_digest_63 : decode cX12_digest 63 = .ok (.dup, 1) := by decide +kernel
theorem dX12_digest_64 : decode cX12_digest 64 = .ok (.bipush 6, 2) := by decide +kernel
theorem dX12_digest_66 : decode cX12_digest 66 = .ok (.aload_n 0, 1) := by decide +kernel
theorem dX12_digest_67 : decode cX12_digest 67 = .ok (.getfield 9, 3) := by decide +kernel
theorem dX12_digest_70 : decode cX12_digest 70 = .ok (.bipush 7, 2) := by decide +kernel
theorem dX12_digest_72 : decode cX12_digest 72 = .ok (.iaload, 1) := by decide +kernel
theorem dX12_digest_73 : decode cX12_digest 73 = .ok (.iastore, 1) := by decide +kernel
theorem dX12_digest_74 : decode cX12_digest 74 = .ok (.dup, 1) := by decide +kernel
theorem dX12_digest_75 : decode cX12_digest 75 = .ok (.bipush 7, 2) := by decide +kernel
theorem dX12_digest_77 : decode cX12_digest 77 = .ok (.aload_n 0, 1) := by decide +kernel
theorem dX12_digest_78 : decode cX12_digest 78 = .ok (.getfield 9, 3) := by decide +kernel
theorem dX12_digest_81 : decode cX12_digest 81 = .ok (.bipush 8, 2) := by decide +kernel
theorem dX12_digest_83 : decode cX12_digest 83 = .ok (.iaload, 1) := by decide +kernel
theorem dX12_digest_84 : decode cX12_digest 84 = .ok (.iastore, 1) := by decide +kernel
theorem dX12_digest_85 : decode cX12_digest 85 = .ok (.dup, 1) := by decide +kernel
theorem dX12_digest_86 : decode cX12_digest 86 = .ok (.bipush 8, 2) := by decide +kernel
theorem dX12_digest_88 : decode cX12_digest 88 = .ok (.aload_n 0, 1) := by decide +kernel
theorem dX12_digest_89 : decode cX12_digest 89 = .ok (.getfield 9, 3) := by decide +kernel
theorem dX12_digest_92 : decode cX12_digest 92 = .ok (.bipush 9, 2) := by decide +kernel
theorem dX12_digest_94 : decode cX12_digest 94 = .ok (.iaload, 1) := by decide +kernel
theorem dX12_digest_95 : decode cX12_digest 95 = .ok (.iastore, 1) := by decide +kernel
theorem dX12_digest_96 : decode cX12_digest 96 = .ok (.dup, 1) := by decide +kernel
theorem dX12_digest_97 : decode cX12_digest 97 = .ok (.bipush 9, 2) := by decide +kernel
theorem dX12_digest_99 : decode cX12_digest 99 = .ok (.aload_n 0, 1) := by decide +kernel
theorem dX12_digest_100 : decode cX12_digest 100 = .ok (.getfield 9, 3) := by decide +kernel
theorem dX12_digest_103 : decode cX12_digest 103 = .ok (.bipush 10, 2) := by decide +kernel
theorem dX12_digest_105 : decode cX12_digest 105 = .ok (.iaload, 1) := by decide +kernel
theorem dX12_digest_106 : decode cX12_digest 106 = .ok (.iastore, 1) := by decide +kernel
theorem dX12_digest_107 : decode cX12_digest 107 = .ok (.dup, 1) := by decide +kernel
theorem dX12_digest_108 : decode cX12_digest 108 = .ok (.bipush 10, 2) := by decide +kernel
theorem dX12_digest_110 : decode cX12_digest 110 = .ok (.aload_n 0, 1) := by decide +kernel
theorem dX12_digest_111 : decode cX12_digest 111 = .ok (.getfield 9, 3) := by decide +kernel
theorem dX12_digest_114 : decode cX12_digest 114 = .ok (.bipush 11, 2) := by decide +kernel
theorem dX12_digest_116 : decode cX12_digest 116 = .ok (.iaload, 1) := by decide +kernel
theorem dX12_digest_117 : decode cX12_digest 117 = .ok (.iastore, 1) := by decide +kernel
theorem dX12_digest_118 : decode cX12_digest 118 = .ok (.dup, 1) := by decide +kernel
theorem dX12_digest_119 : decode cX12_digest 119 = .ok (.bipush 11, 2) := by decide +kernel
theorem dX12_digest_121 : decode cX12_digest 121 = .ok (.aload_n 0, 1) := by decide +kernel
theorem dX12_digest_122 : decode cX12_digest 122 = .ok (.getfield 9, 3) := by decide +kernel
theorem dX12_digest_125 : decode cX12_digest 125 = .ok (.bipush 12, 2) := by decide +kernel
theorem dX12_digest_127 : decode cX12_digest 127 = .ok (.iaload, 1) := by decide +kernel
theorem dX12_digest_128 : decode cX12_digest 128 = .ok (.iastore, 1) := by decide +kernel
theorem dX12_digest_129 : decode cX12_digest 129 = .ok (.dup, 1) := by decide +kernel
theorem dX12_digest_130 : decode cX12_digest 130 = .ok (.bipush 12, 2) := by decide +kernel
theorem dX12_digest_132 : decode cX12_digest 132 = .ok (.aload_n 0, 1) := by decide +kernel
theorem dX12_digest_133 : decode cX12_digest 133 = .ok (.getfield 9, 3) := by decide +kernel
theorem dX12_digest_136 : decode cX12_digest 136 = .ok (.bipush 18, 2) := by decide +kernel
theorem dX12_digest_138 : decode cX12_digest 138 = .ok (.iaload, 1) := by decide +kernel
theorem dX12_digest_139 : decode cX12_digest 139 = .ok (.iastore, 1) := by decide +kernel
theorem dX12_digest_140 : decode cX12_digest 140 = .ok (.dup, 1) := by decide +kernel
theorem dX12_digest_141 : decode cX12_digest 141 = .ok (.bipush 13, 2) := by decide +kernel
theorem dX12_digest_143 : decode cX12_digest 143 = .ok (.aload_n 0, 1) := by decide +kernel
theorem dX12_digest_144 : decode cX12_digest 144 = .ok (.getfield 9, 3) := by decide +kernel
theorem dX12_digest_147 : decode cX12_digest 147 = .ok (.bipush 19, 2) := by decide +kernel
theorem dX12_digest_149 : decode cX12_digest 149 = .ok (.iaload, 1) := by decide +kernel
theorem dX12_digest_150 : decode cX12_digest 150 = .ok (.iastore, 1) := by decide +kernel
theorem dX12_digest_151 : decode cX12_digest 151 = .ok (.dup, 1) := by decide +kernel
theorem dX12_digest_152 : decode cX12_digest 152 = .ok (.bipush 14, 2) := by decide +kernel
theorem dX12_digest_154 : decode cX12_digest 154 = .ok (.aload_n 0, 1) := by decide +kernel
theorem dX12_digest_155 : decode cX12_digest 155 = .ok (.getfield 278, 3) := by decide +kernel
theorem dX12_digest_158 : decode cX12_digest 158 = .ok (.iastore, 1) := by decide +kernel
theorem dX12_digest_159 : decode cX12_digest 159 = .ok (.dup, 1) := by decide +kernel
theorem dX12_digest_160 : decode cX12_digest 160 = .ok (.bipush 15, 2) := by decide +kernel
theorem dX12_digest_162 : decode cX12_digest 162 = .ok (.aload_n 0, 1) := by decide +kernel
theorem dX12_digest_163 : decode cX12_digest 163 = .ok (.getfield 272, 3) := by decide +kernel
theorem dX12_digest_166 : decode cX12_digest 166 = .ok (.iastore, 1) := by decide +kernel
theorem dX12_digest_167 : decode cX12_digest 167 = .ok (.dup, 1) := by decide +kernel
theorem dX12_digest_168 : decode cX12_digest 168 = .ok (.bipush 16, 2) := by decide +kernel
theorem dX12_digest_170 : decode cX12_digest 170 = .ok (.aload_n 0, 1) := by decide +kernel
theorem dX12_digest_171 : decode cX12_digest 171 = .ok (.getfield 9, 3) := by decide +kernel
theorem dX12_digest_174 : decode cX12_digest 174 = .ok (.bipush 20, 2) := by decide +kernel
theorem dX12_digest_176 : decode cX12_digest 176 = .ok (.iaload, 1) := by decide +kernel
theorem dX12_digest_177 : decode cX12_digest 177 = .ok (.iastore, 1) := by decide +kernel
theorem dX12_digest_178 : decode cX12_digest 178 = .ok (.astore_n 1, 1) := by decide +kernel
theorem dX12_digest_179 : decode cX12_digest 179 = .ok (.ldc2_w 559, 3) := by decide +kernel
theorem dX12_digest_182 : decode cX12_digest 182 = .ok (.lstore_n 2, 1) := by decide +kernel
theorem dX12_digest_183 : decode cX12_digest 183 = .ok (.aload_n 1, 1) := by decide +kernel
theorem dX12_digest_184 : decode cX12_digest 184 = .ok (.astore 4, 2) := by decide +kernel
theorem dX12_digest_186 : decode cX12_digest 186 = .ok (.aload 4, 2) := by decide +kernel
theorem dX12_digest_188 : decode cX12_digest 188 = .ok (.arraylength, 1) := by decide +kernel
theorem dX12_digest_189 : decode cX12_digest 189 = .ok (.istore 5, 2) := by decide +kernel
theorem dX12_digest_191 : decode cX12_digest 191 = .ok (.iconst 0, 1) := by decide +kernel
theorem dX12_digest_192 : decode cX12_digest 192 = .ok (.istore 6, 2) := by decide +kernel
theorem dX12_digest_194 : decode cX12_digest 194 = .ok (.iload 6, 2) := by decide +kernel
theorem dX12_digest_196 : decode cX12_digest 196 = .ok (.iload 5, 2) := by decide +kernel
theorem dX12_digest_198 : decode cX12_digest 198 = .ok (.if_icmp .ge 24, 3) := by decide +kernel
theorem dX12_digest_201 : decode cX12_digest 201 = .ok (.aload 4, 2) := by decide +kernel
theorem dX12_digest_203 : decode cX12_digest 203 = .ok (.iload 6, 2) := by decide +kernel
theorem dX12_digest_205 : decode cX12_digest 205 = .ok (.iaload, 1) := by decide +kernel
theorem dX12_digest_206 : decode cX12_digest 206 = .ok (.istore 7, 2) := by decide +kernel
theorem dX12_digest_208 : decode cX12_digest 208 = .ok (.lload_n 2, 1) := by decide +kernel
theorem dX12_digest_209 : decode cX12_digest 209 = .ok (.iload 7, 2) := by decide +kernel
theorem dX12_digest_211 : decode cX12_digest 211 = .ok (.i2l, 1) := by decide +kernel
theorem dX12_digest_212 : decode cX12_digest 212 = .ok (.invokestatic 561, 3) := by decide +kernel
theorem dX12_digest_215 : decode cX12_digest 215 = .ok (.lstore_n 2, 1) := by decide +kernel
theorem dX12_digest_216 : decode cX12_digest 216 = .ok (.iinc 6 1, 3) := by decide +kernel
theorem dX12_digest_219 : decode cX12_digest 219 = .ok (.goto (-25), 3) := by decide +kernel
theorem dX12_digest_222 : decode cX12_digest 222 = .ok (.aload_n 0, 1) := by decide +kernel
theorem dX12_digest_223 : decode cX12_digest 223 = .ok (.getfield 9, 3) := by decide +kernel
theorem dX12_digest_226 : decode cX12_digest 226 = .ok (.bipush 20, 2) := by decide +kernel
theorem dX12_digest_228 : decode cX12_digest 228 = .ok (.iaload, 1) := by decide +kernel
theorem dX12_digest_229 : decode cX12_digest 229 = .ok (.iconst 1, 1) := by decide +kernel
theorem dX12_digest_230 : decode cX12_digest 230 = .ok (.isub, 1) := by decide +kernel
theorem dX12_digest_231 : decode cX12_digest 231 = .ok (.istore 4, 2) := by decide +kernel
theorem dX12_digest_233 : decode cX12_digest 233 = .ok (.iload 4, 2) := by decide +kernel
theorem dX12_digest_235 : decode cX12_digest 235 = .ok (.ifCond .lt 25, 3) := by decide +kernel
theorem dX12_digest_238 : decode cX12_digest 238 = .ok (.lload_n 2, 1) := by decide +kernel
theorem dX12_digest_239 : decode cX12_digest 239 = .ok (.aload_n 0, 1) := by decide +kernel
theorem dX12_digest_240 : decode cX12_digest 240 = .ok (.getfield 9, 3) := by decide +kernel
theorem dX12_digest_243 : decode cX12_digest 243 = .ok (.bipush 37, 2) := by decide +kernel
theorem dX12_digest_245 : decode cX12_digest 245 = .ok (.iload 4, 2) := by decide +kernel
theorem dX12_digest_247 : decode cX12_digest 247 = .ok (.iadd, 1) := by decide +kernel
theorem dX12_digest_248 : decode cX12_digest 248 = .ok (.iaload, 1) := by decide +kernel
theorem dX12_digest_249 : decode cX12_digest 249 = .ok (.i2l, 1) := by decide +kernel
theorem dX12_digest_250 : decode cX12_digest 250 = .ok (.invokestatic 561, 3) := by decide +kernel
theorem dX12_digest_253 : decode cX12_digest 253 = .ok (.lstore_n 2, 1) := by decide +kernel
theorem dX12_digest_254 : decode cX12_digest 254 = .ok (.iinc 4 (-1), 3) := by decide +kernel
theorem dX12_digest_257 : decode cX12_digest 257 = .ok (.goto (-24), 3) := by decide +kernel
theorem dX12_digest_260 : decode cX12_digest 260 = .ok (.lload_n 2, 1) := by decide +kernel
theorem dX12_digest_261 : decode cX12_digest 261 = .ok (.aload_n 0, 1) := by decide +kernel
theorem dX12_digest_262 : decode cX12_digest 262 = .ok (.getfield 497, 3) := by decide +kernel
theorem dX12_digest_265 : decode cX12_digest 265 = .ok (.i2l, 1) := by decide +kernel
theorem dX12_digest_266 : decode cX12_digest 266 = .ok (.invokestatic 561, 3) := by decide +kernel
theorem dX12_digest_269 : decode cX12_digest 269 = .ok (.lstore_n 2, 1) := by decide +kernel
theorem dX12_digest_270 : decode cX12_digest 270 = .ok (.iconst 0, 1) := by decide +kernel
theorem dX12_digest_271 : decode cX12_digest 271 = .ok (.istore 4, 2) := by decide +kernel
theorem dX12_digest_273 : decode cX12_digest 273 = .ok (.iload 4, 2) := by decide +kernel
theorem dX12_digest_275 : decode cX12_digest 275 = .ok (.aload_n 0, 1) := by decide +kernel
theorem dX12_digest_276 : decode cX12_digest 276 = .ok (.getfield 497, 3) := by decide +kernel
theorem dX12_digest_279 : decode cX12_digest 279 = .ok (.if_icmp .ge 22, 3) := by decide +kernel
theorem dX12_digest_282 : decode cX12_digest 282 = .ok (.lload_n 2, 1) := by decide +kernel
theorem dX12_digest_283 : decode cX12_digest 283 = .ok (.aload_n 0, 1) := by decide +kernel
theorem dX12_digest_284 : decode cX12_digest 284 = .ok (.getfield 87, 3) := by decide +kernel
theorem dX12_digest_287 : decode cX12_digest 287 = .ok (.iload 4, 2) := by decide +kernel
theorem dX12_digest_289 : decode cX12_digest 289 = .ok (.iaload, 1) := by decide +kernel
theorem dX12_digest_290 : decode cX12_digest 290 = .ok (.i2l, 1) := by decide +kernel
theorem dX12_digest_291 : decode cX12_digest 291 = .ok (.invokestatic 561, 3) := by decide +kernel
theorem dX12_digest_294 : decode cX12_digest 294 = .ok (.lstore_n 2, 1) := by decide +kernel
theorem dX12_digest_295 : decode cX12_digest 295 = .ok (.iinc 4 1, 3) := by decide +kernel
theorem dX12_digest_298 : decode cX12_digest 298 = .ok (.goto (-25), 3) := by decide +kernel
theorem dX12_digest_301 : decode cX12_digest 301 = .ok (.lload_n 2, 1) := by decide +kernel
theorem dX12_digest_302 : decode cX12_digest 302 = .ok (.aload_n 0, 1) := by decide +kernel
theorem dX12_digest_303 : decode cX12_digest 303 = .ok (.invokevirtual 534, 3) := by decide +kernel
theorem dX12_digest_306 : decode cX12_digest 306 = .ok (.i2l, 1) := by decide +kernel
theorem dX12_digest_307 : decode cX12_digest 307 = .ok (.invokestatic 561, 3) := by decide +kernel
theorem dX12_digest_310 : decode cX12_digest 310 = .ok (.aload_n 0, 1) := by decide +kernel
theorem dX12_digest_311 : decode cX12_digest 311 = .ok (.invokevirtual 554, 3) := by decide +kernel
theorem dX12_digest_314 : decode cX12_digest 314 = .ok (.i2l, 1) := by decide +kernel
theorem dX12_digest_315 : decode cX12_digest 315 = .ok (.invokestatic 561, 3) := by decide +kernel
theorem dX12_digest_318 : decode cX12_digest 318 = .ok (.lstore_n 2, 1) := by decide +kernel
theorem dX12_digest_319 : decode cX12_digest 319 = .ok (.iconst 0, 1) := by decide +kernel
theorem dX12_digest_320 : decode cX12_digest 320 = .ok (.istore 4, 2) := by decide +kernel
theorem dX12_digest_322 : decode cX12_digest 322 = .ok (.iload 4, 2) := by decide +kernel
theorem dX12_digest_324 : decode cX12_digest 324 = .ok (.sipush 11008, 3) := by decide +kernel
theorem dX12_digest_327 : decode cX12_digest 327 = .ok (.if_icmp .ge 26, 3) := by decide +kernel
theorem dX12_digest_330 : decode cX12_digest 330 = .ok (.lload_n 2, 1) := by decide +kernel
theorem dX12_digest_331 : decode cX12_digest 331 = .ok (.aload_n 0, 1) := by decide +kernel
theorem dX12_digest_332 : decode cX12_digest 332 = .ok (.getfield 9, 3) := by decide +kernel
theorem dX12_digest_335 : decode cX12_digest 335 = .ok (.sipush 1101, 3) := by decide +kernel
theorem dX12_digest_338 : decode cX12_digest 338 = .ok (.iload 4, 2) := by decide +kernel
theorem dX12_digest_340 : decode cX12_digest 340 = .ok (.iadd, 1) := by decide +kernel
theorem dX12_digest_341 : decode cX12_digest 341 = .ok (.iaload, 1) := by decide +kernel
theorem dX12_digest_342 : decode cX12_digest 342 = .ok (.i2l, 1) := by decide +kernel
theorem dX12_digest_343 : decode cX12_digest 343 = .ok (.invokestatic 561, 3) := by decide +kernel
theorem dX12_digest_346 : decode cX12_digest 346 = .ok (.lstore_n 2, 1) := by decide +kernel
theorem dX12_digest_347 : decode cX12_digest 347 = .ok (.iinc 4 1, 3) := by decide +kernel
theorem dX12_digest_350 : decode cX12_digest 350 = .ok (.goto (-28), 3) := by decide +kernel
theorem dX12_digest_353 : decode cX12_digest 353 = .ok (.iconst 0, 1) := by decide +kernel
theorem dX12_digest_354 : decode cX12_digest 354 = .ok (.istore 4, 2) := by decide +kernel
theorem dX12_digest_356 : decode cX12_digest 356 = .ok (.iload 4, 2) := by decide +kernel
theorem dX12_digest_358 : decode cX12_digest 358 = .ok (.bipush 40, 2) := by decide +kernel
theorem dX12_digest_360 : decode cX12_digest 360 = .ok (.aload_n 0, 1) := by decide +kernel
theorem dX12_digest_361 : decode cX12_digest 361 = .ok (.getfield 9, 3) := by decide +kernel
theorem dX12_digest_364 : decode cX12_digest 364 = .ok (.bipush 19, 2) := by decide +kernel
theorem dX12_digest_366 : decode cX12_digest 366 = .ok (.iaload, 1) := by decide +kernel
theorem dX12_digest_367 : decode cX12_digest 367 = .ok (.invokestatic 525, 3) := by decide +kernel
theorem dX12_digest_370 : decode cX12_digest 370 = .ok (.if_icmp .ge 21, 3) := by decide +kernel
theorem dX12_digest_373 : decode cX12_digest 373 = .ok (.lload_n 2, 1) := by decide +kernel
theorem dX12_digest_374 : decode cX12_digest 374 = .ok (.aload_n 0, 1) := by decide +kernel
theorem dX12_digest_375 : decode cX12_digest 375 = .ok (.iload 4, 2) := by decide +kernel
theorem dX12_digest_377 : decode cX12_digest 377 = .ok (.invokevirtual 531, 3) := by decide +kernel
theorem dX12_digest_380 : decode cX12_digest 380 = .ok (.i2l, 1) := by decide +kernel
theorem dX12_digest_381 : decode cX12_digest 381 = .ok (.invokestatic 561, 3) := by decide +kernel
theorem dX12_digest_384 : decode cX12_digest 384 = .ok (.lstore_n 2, 1) := by decide +kernel
theorem dX12_digest_385 : decode cX12_digest 385 = .ok (.iinc 4 1, 3) := by decide +kernel
theorem dX12_digest_388 : decode cX12_digest 388 = .ok (.goto (-32), 3) := by decide +kernel
theorem dX12_digest_391 : decode cX12_digest 391 = .ok (.lload_n 2, 1) := by decide +kernel
theorem dX12_digest_392 : decode cX12_digest 392 = .ok (.lreturn, 1) := by decide +kernel
theorem dJ7_fill_53178_0 : decode cJ7_fill_53178 0 = .ok (.iconst 0, 1) := by decide +kernel
theorem dJ7_fill_53178_1 : decode cJ7_fill_53178 1 = .ok (.istore_n 2, 1) := by decide +kernel
theorem dJ7_fill_53178_2 : decode cJ7_fill_53178 2 = .ok (.aload_n 0, 1) := by decide +kernel
theorem dJ7_fill_53178_3 : decode cJ7_fill_53178 3 = .ok (.arraylength, 1) := by decide +kernel
theorem dJ7_fill_53178_4 : decode cJ7_fill_53178 4 = .ok (.istore_n 3, 1) := by decide +kernel
theorem dJ7_fill_53178_5 : decode cJ7_fill_53178 5 = .ok (.iload_n 2, 1) := by decide +kernel
theorem dJ7_fill_53178_6 : decode cJ7_fill_53178 6 = .ok (.iload_n 3, 1) := by decide +kernel
theorem dJ7_fill_53178_7 : decode cJ7_fill_53178 7 = .ok (.if_icmp .ge 13, 3) := by decide +kernel
theorem dJ7_fill_53178_10 : decode cJ7_fill_53178 10 = .ok (.aload_n 0, 1) := by decide +kernel
theorem dJ7_fill_53178_11 : decode cJ7_fill_53178 11 = .ok (.iload_n 2, 1) := by decide +kernel
theorem dJ7_fill_53178_12 : decode cJ7_fill_53178 12 = .ok (.iload_n 1, 1) := by decide +kernel
theorem dJ7_fill_53178_13 : decode cJ7_fill_53178 13 = .ok (.iastore, 1) := by decide +kernel
theorem dJ7_fill_53178_14 : decode cJ7_fill_53178 14 = .ok (.iinc 2 1, 3) := by decide +kernel
theorem dJ7_fill_53178_17 : decode cJ7_fill_53178 17 = .ok (.goto (-12), 3) := by decide +kernel
theorem dJ7_fill_53178_20 : decode cJ7_fill_53178 20 = .ok (.return_, 1) := by decide +kernel
theorem dL_feed_0 : decode cL_feed 0 = .ok (.aload 6, 2) := by decide +kernel
theorem dL_feed_2 : decode cL_feed 2 = .ok (.iconst 0, 1) := by decide +kernel
theorem dL_feed_3 : decode cL_feed 3 = .ok (.aload_n 0, 1) := by decide +kernel
theorem dL_feed_4 : decode cL_feed 4 = .ok (.iload_n 1, 1) := by decide +kernel
theorem dL_feed_5 : decode cL_feed 5 = .ok (.iload_n 2, 1) := by decide +kernel
theorem dL_feed_6 : decode cL_feed 6 = .ok (.iload_n 3, 1) := by decide +kernel
theorem dL_feed_7 : decode cL_feed 7 = .ok (.iload 4, 2) := by decide +kernel
theorem dL_feed_9 : decode cL_feed 9 = .ok (.iload 5, 2) := by decide +kernel
theorem dL_feed_11 : decode cL_feed 11 = .ok (.invokevirtual 7, 3) := by decide +kernel
theorem dL_feed_14 : decode cL_feed 14 = .ok (.i2l, 1) := by decide +kernel
theorem dL_feed_15 : decode cL_feed 15 = .ok (.lastore, 1) := by decide +kernel
theorem dL_feed_16 : decode cL_feed 16 = .ok (.goto 7, 3) := by decide +kernel
theorem dL_feed_19 : decode cL_feed 19 = .ok (.astore 7, 2) := by decide +kernel
theorem dL_feed_21 : decode cL_feed 21 = .ok (.iconst 1, 1) := by decide +kernel
theorem dL_feed_22 : decode cL_feed 22 = .ok (.ireturn, 1) := by decide +kernel
theorem dL_feed_23 : decode cL_feed 23 = .ok (.iconst 0, 1) := by decide +kernel
theorem dL_feed_24 : decode cL_feed 24 = .ok (.ireturn, 1) := by decide +kernel
theorem dL_trim_0 : decode cL_trim 0 = .ok (.aload_n 2, 1) := by decide +kernel
theorem dL_trim_1 : decode cL_trim 1 = .ok (.iconst 0, 1) := by decide +kernel
theorem dL_trim_2 : decode cL_trim 2 = .ok (.aload_n 0, 1) := by decide +kernel
theorem dL_trim_3 : decode cL_trim 3 = .ok (.iload_n 1, 1) := by decide +kernel
theorem dL_trim_4 : decode cL_trim 4 = .ok (.invokevirtual 15, 3) := by decide +kernel
theorem dL_trim_7 : decode cL_trim 7 = .ok (.i2l, 1) := by decide +kernel
theorem dL_trim_8 : decode cL_trim 8 = .ok (.lastore, 1) := by decide +kernel
theorem dL_trim_9 : decode cL_trim 9 = .ok (.goto 6, 3) := by decide +kernel
theorem dL_trim_12 : decode cL_trim 12 = .ok (.astore_n 3, 1) := by decide +kernel
theorem dL_trim_13 : decode cL_trim 13 = .ok (.iconst 1, 1) := by decide +kernel
theorem dL_trim_14 : decode cL_trim 14 = .ok (.ireturn, 1) := by decide +kernel
theorem dL_trim_15 : decode cL_trim 15 = .ok (.iconst 0, 1) := by decide +kernel
theorem dL_trim_16 : decode cL_trim 16 = .ok (.ireturn, 1) := by decide +kernel
theorem dL_valueOf_0 : decode cL_valueOf 0 = .ok (.aload_n 2, 1) := by decide +kernel
theorem dL_valueOf_1 : decode cL_valueOf 1 = .ok (.iconst 0, 1) := by decide +kernel
theorem dL_valueOf_2 : decode cL_valueOf 2 = .ok (.aload_n 0, 1) := by decide +kernel
theorem dL_valueOf_3 : decode cL_valueOf 3 = .ok (.iload_n 1, 1) := by decide +kernel
theorem dL_valueOf_4 : decode cL_valueOf 4 = .ok (.invokevirtual 21, 3) := by decide +kernel
theorem dL_valueOf_7 : decode cL_valueOf 7 = .ok (.i2l, 1) := by decide +kernel
theorem dL_valueOf_8 : decode cL_valueOf 8 = .ok (.lastore, 1) := by decide +kernel
theorem dL_valueOf_9 : decode cL_valueOf 9 = .ok (.goto 6, 3) := by decide +kernel
theorem dL_valueOf_12 : decode cL_valueOf 12 = .ok (.astore_n 3, 1) := by decide +kernel
theorem dL_valueOf_13 : decode cL_valueOf 13 = .ok (.iconst 1, 1) := by decide +kernel
theorem dL_valueOf_14 : decode cL_valueOf 14 = .ok (.ireturn, 1) := by decide +kernel
theorem dL_valueOf_15 : decode cL_valueOf 15 = .ok (.iconst 0, 1) := by decide +kernel
theorem dL_valueOf_16 : decode cL_valueOf 16 = .ok (.ireturn, 1) := by decide +kernel
theorem dL_nameNear_0 : decode cL_nameNear 0 = .ok (.aload_n 2, 1) := by decide +kernel
theorem dL_nameNear_1 : decode cL_nameNear 1 = .ok (.iconst 0, 1) := by decide +kernel
theorem dL_nameNear_2 : decode cL_nameNear 2 = .ok (.aload_n 0, 1) := by decide +kernel
theorem dL_nameNear_3 : decode cL_nameNear 3 = .ok (.iload_n 1, 1) := by decide +kernel
theorem dL_nameNear_4 : decode cL_nameNear 4 = .ok (.invokevirtual 26, 3) := by decide +kernel
theorem dL_nameNear_7 : decode cL_nameNear 7 = .ok (.i2l, 1) := by decide +kernel
theorem dL_nameNear_8 : decode cL_nameNear 8 = .ok (.lastore, 1) := by decide +kernel
theorem dL_nameNear_9 : decode cL_nameNear 9 = .ok (.goto 6, 3) := by decide +kernel
theorem dL_nameNear_12 : decode cL_nameNear 12 = .ok (.astore_n 3, 1) := by decide +kernel
theorem dL_nameNear_13 : decode cL_nameNear 13 = .ok (.iconst 1, 1) := by decide +kernel
theorem dL_nameNear_14 : decode cL_nameNear 14 = .ok (.ireturn, 1) := by decide +kernel
theorem dL_nameNear_15 : decode cL_nameNear 15 = .ok (.iconst 0, 1) := by decide +kernel
theorem dL_nameNear_16 : decode cL_nameNear 16 = .ok (.ireturn, 1) := by decide +kernel
theorem dL_lineOf_0 : decode cL_lineOf 0 = .ok (.aload_n 2, 1) := by decide +kernel
theorem dL_lineOf_1 : decode cL_lineOf 1 = .ok (.iconst 0, 1) := by decide +kernel
theorem dL_lineOf_2 : decode cL_lineOf 2 = .ok (.aload_n 0, 1) := by decide +kernel
theorem dL_lineOf_3 : decode cL_lineOf 3 = .ok (.iload_n 1, 1) := by decide +kernel
theorem dL_lineOf_4 : decode cL_lineOf 4 = .ok (.invokevirtual 29, 3) := by decide +kernel
theorem dL_lineOf_7 : decode cL_lineOf 7 = .ok (.i2l, 1) := by decide +kernel
theorem dL_lineOf_8 : decode cL_lineOf 8 = .ok (.lastore, 1) := by decide +kernel
theorem dL_lineOf_9 : decode cL_lineOf 9 = .ok (.goto 6, 3) := by decide +kernel
theorem dL_lineOf_12 : decode cL_lineOf 12 = .ok (.astore_n 3, 1) := by decide +kernel
theorem dL_lineOf_13 : decode cL_lineOf 13 = .ok (.iconst 1, 1) := by decide +kernel
theorem dL_lineOf_14 : decode cL_lineOf 14 = .ok (.ireturn, 1) := by decide +kernel
theorem dL_lineOf_15 : decode cL_lineOf 15 = .ok (.iconst 0, 1) := by decide +kernel
theorem dL_lineOf_16 : decode cL_lineOf 16 = .ok (.ireturn, 1) := by decide +kernel
theorem dL_key_0 : decode cL_key 0 = .ok (.aload_n 2, 1) := by decide +kernel
theorem dL_key_1 : decode cL_key 1 = .ok (.iconst 0, 1) := by decide +kernel
theorem dL_key_2 : decode cL_key 2 = .ok (.aload_n 0, 1) := by decide +kernel
theorem dL_key_3 : decode cL_key 3 = .ok (.iload_n 1, 1) := by decide +kernel
theorem dL_key_4 : decode cL_key 4 = .ok (.invokevirtual 32, 3) := by decide +kernel
theorem dL_key_7 : decode cL_key 7 = .ok (.i2l, 1) := by decide +kernel
theorem dL_key_8 : decode cL_key 8 = .ok (.lastore, 1) := by decide +kernel
theorem dL_key_9 : decode cL_key 9 = .ok (.goto 9, 3) := by decide +kernel
theorem dL_key_12 : decode cL_key 12 = .ok (.astore_n 3, 1) := by decide +kernel
theorem dL_key_13 : decode cL_key 13 = .ok (.iconst 1, 1) := by decide +kernel
theorem dL_key_14 : decode cL_key 14 = .ok (.ireturn, 1) := by decide +kernel
theorem dL_key_15 : decode cL_key 15 = .ok (.astore_n 3, 1) := by decide +kernel
theorem dL_key_16 : decode cL_key 16 = .ok (.iconst 2, 1) := by decide +kernel
theorem dL_key_17 : decode cL_key 17 = .ok (.ireturn, 1) := by decide +kernel
theorem dL_key_18 : decode cL_key 18 = .ok (.iconst 0, 1) := by decide +kernel
theorem dL_key_19 : decode cL_key 19 = .ok (.ireturn, 1) := by decide +kernel
theorem dL_poke_0 : decode cL_poke 0 = .ok (.aload_n 3, 1) := by decide +kernel
theorem dL_poke_1 : decode cL_poke 1 = .ok (.iconst 0, 1) := by decide +kernel
theorem dL_poke_2 : decode cL_poke 2 = .ok (.aload_n 0, 1) := by decide +kernel
theorem dL_poke_3 : decode cL_poke 3 = .ok (.iload_n 1, 1) := by decide +kernel
theorem dL_poke_4 : decode cL_poke 4 = .ok (.iload_n 2, 1) := by decide +kernel
theorem dL_poke_5 : decode cL_poke 5 = .ok (.invokevirtual 35, 3) := by decide +kernel
theorem dL_poke_8 : decode cL_poke 8 = .ok (.i2l, 1) := by decide +kernel
theorem dL_poke_9 : decode cL_poke 9 = .ok (.lastore, 1) := by decide +kernel
theorem dL_poke_10 : decode cL_poke 10 = .ok (.goto 7, 3) := by decide +kernel
theorem dL_poke_13 : decode cL_poke 13 = .ok (.astore 4, 2) := by decide +kernel
theorem dL_poke_15 : decode cL_poke 15 = .ok (.iconst 1, 1) := by decide +kernel
theorem dL_poke_16 : decode cL_poke 16 = .ok (.ireturn, 1) := by decide +kernel
theorem dL_poke_17 : decode cL_poke 17 = .ok (.iconst 0, 1) := by decide +kernel
theorem dL_poke_18 : decode cL_poke 18 = .ok (.ireturn, 1) := by decide +kernel
theorem dL_setRegister_0 : decode cL_setRegister 0 = .ok (.aload_n 3, 1) := by decide +kernel
theorem dL_setRegister_1 : decode cL_setRegister 1 = .ok (.iconst 0, 1) := by decide +kernel
theorem dL_setRegister_2 : decode cL_setRegister 2 = .ok (.aload_n 0, 1) := by decide +kernel
theorem dL_setRegister_3 : decode cL_setRegister 3 = .ok (.iload_n 1, 1) := by decide +kernel
theorem dL_setRegister_4 : decode cL_setRegister 4 = .ok (.iload_n 2, 1) := by decide +kernel
theorem dL_setRegister_5 : decode cL_setRegister 5 = .ok (.invokevirtual 39, 3) := by decide +kernel
theorem dL_setRegister_8 : decode cL_setRegister 8 = .ok (.i2l, 1) := by decide +kernel
theorem dL_setRegister_9 : decode cL_setRegister 9 = .ok (.lastore, 1) := by decide +kernel
theorem dL_setRegister_10 : decode cL_setRegister 10 = .ok (.goto 11, 3) := by decide +kernel
theorem dL_setRegister_13 : decode cL_setRegister 13 = .ok (.astore 4, 2) := by decide +kernel
theorem dL_setRegister_15 : decode cL_setRegister 15 = .ok (.iconst 1, 1) := by decide +kernel
theorem dL_setRegister_16 : decode cL_setRegister 16 = .ok (.ireturn, 1) := by decide +kernel
theorem dL_setRegister_17 : decode cL_setRegister 17 = .ok (.astore 4, 2) := by decide +kernel
theorem dL_setRegister_19 : decode cL_setRegister 19 = .ok (.iconst 2, 1) := by decide +kernel
theorem dL_setRegister_20 : decode cL_setRegister 20 = .ok (.ireturn, 1) := by decide +kernel
theorem dL_setRegister_21 : decode cL_setRegister 21 = .ok (.iconst 0, 1) := by decide +kernel
theorem dL_setRegister_22 : decode cL_setRegister 22 = .ok (.ireturn, 1) := by decide +kernel
theorem dL_run_0 : decode cL_run 0 = .ok (.aload_n 2, 1) := by decide +kernel
theorem dL_run_1 : decode cL_run 1 = .ok (.iconst 0, 1) := by decide +kernel
theorem dL_run_2 : decode cL_run 2 = .ok (.aload_n 0, 1) := by decide +kernel
theorem dL_run_3 : decode cL_run 3 = .ok (.iload_n 1, 1) := by decide +kernel
theorem dL_run_4 : decode cL_run 4 = .ok (.invokevirtual 42, 3) := by decide +kernel
theorem dL_run_7 : decode cL_run 7 = .ok (.i2l, 1) := by decide +kernel
theorem dL_run_8 : decode cL_run 8 = .ok (.lastore, 1) := by decide +kernel
theorem dL_run_9 : decode cL_run 9 = .ok (.goto 6, 3) := by decide +kernel
theorem dL_run_12 : decode cL_run 12 = .ok (.astore_n 3, 1) := by decide +kernel
theorem dL_run_13 : decode cL_run 13 = .ok (.iconst 1, 1) := by decide +kernel
theorem dL_run_14 : decode cL_run 14 = .ok (.ireturn, 1) := by decide +kernel
theorem dL_run_15 : decode cL_run 15 = .ok (.iconst 0, 1) := by decide +kernel
theorem dL_run_16 : decode cL_run 16 = .ok (.ireturn, 1) := by decide +kernel
theorem dL_back_0 : decode cL_back 0 = .ok (.aload_n 2, 1) := by decide +kernel
theorem dL_back_1 : decode cL_back 1 = .ok (.iconst 0, 1) := by decide +kernel
theorem dL_back_2 : decode cL_back 2 = .ok (.aload_n 0, 1) := by decide +kernel
theorem dL_back_3 : decode cL_back 3 = .ok (.iload_n 1, 1) := by decide +kernel
theorem dL_back_4 : decode cL_back 4 = .ok (.invokevirtual 45, 3) := by decide +kernel
theorem dL_back_7 : decode cL_back 7 = .ok (.i2l, 1) := by decide +kernel
theorem dL_back_8 : decode cL_back 8 = .ok (.lastore, 1) := by decide +kernel
theorem dL_back_9 : decode cL_back 9 = .ok (.goto 6, 3) := by decide +kernel
theorem dL_back_12 : decode cL_back 12 = .ok (.astore_n 3, 1) := by decide +kernel
theorem dL_back_13 : decode cL_back 13 = .ok (.iconst 1, 1) := by decide +kernel
theorem dL_back_14 : decode cL_back 14 = .ok (.ireturn, 1) := by decide +kernel
theorem dL_back_15 : decode cL_back 15 = .ok (.iconst 0, 1) := by decide +kernel
theorem dL_back_16 : decode cL_back 16 = .ok (.ireturn, 1) := by decide +kernel
theorem dL_setBreak_0 : decode cL_setBreak 0 = .ok (.aload_n 3, 1) := by decide +kernel
theorem dL_setBreak_1 : decode cL_setBreak 1 = .ok (.iconst 0, 1) := by decide +kernel
theorem dL_setBreak_2 : decode cL_setBreak 2 = .ok (.aload_n 0, 1) := by decide +kernel
theorem dL_setBreak_3 : decode cL_setBreak 3 = .ok (.iload_n 1, 1) := by decide +kernel
theorem dL_setBreak_4 : decode cL_setBreak 4 = .ok (.iload_n 2, 1) := by decide +kernel
theorem dL_setBreak_5 : decode cL_setBreak 5 = .ok (.invokevirtual 48, 3) := by decide +kernel
theorem dL_setBreak_8 : decode cL_setBreak 8 = .ok (.i2l, 1) := by decide +kernel
theorem dL_setBreak_9 : decode cL_setBreak 9 = .ok (.lastore, 1) := by decide +kernel
theorem dL_setBreak_10 : decode cL_setBreak 10 = .ok (.goto 11, 3) := by decide +kernel
theorem dL_setBreak_13 : decode cL_setBreak 13 = .ok (.astore 4, 2) := by decide +kernel
theorem dL_setBreak_15 : decode cL_setBreak 15 = .ok (.iconst 1, 1) := by decide +kernel
theorem dL_setBreak_16 : decode cL_setBreak 16 = .ok (.ireturn, 1) := by decide +kernel
theorem dL_setBreak_17 : decode cL_setBreak 17 = .ok (.astore 4, 2) := by decide +kernel
theorem dL_setBreak_19 : decode cL_setBreak 19 = .ok (.iconst 2, 1) := by decide +kernel
theorem dL_setBreak_20 : decode cL_setBreak 20 = .ok (.ireturn, 1) := by decide +kernel
theorem dL_setBreak_21 : decode cL_setBreak 21 = .ok (.iconst 0, 1) := by decide +kernel
theorem dL_setBreak_22 : decode cL_setBreak 22 = .ok (.ireturn, 1) := by decide +kernel
theorem dL_setWatch_0 : decode cL_setWatch 0 = .ok (.aload 5, 2) := by decide +kernel
theorem dL_setWatch_2 : decode cL_setWatch 2 = .ok (.iconst 0, 1) := by decide +kernel
theorem dL_setWatch_3 : decode cL_setWatch 3 = .ok (.aload_n 0, 1) := by decide +kernel
theorem dL_setWatch_4 : decode cL_setWatch 4 = .ok (.iload_n 1, 1) := by decide +kernel
theorem dL_setWatch_5 : decode cL_setWatch 5 = .ok (.iload_n 2, 1) := by decide +kernel
theorem dL_setWatch_6 : decode cL_setWatch 6 = .ok (.iload_n 3, 1) := by decide +kernel
theorem dL_setWatch_7 : decode cL_setWatch 7 = .ok (.iload 4, 2) := by decide +kernel
theorem dL_setWatch_9 : decode cL_setWatch 9 = .ok (.invokevirtual 51, 3) := by decide +kernel
theorem dL_setWatch_12 : decode cL_setWatch 12 = .ok (.i2l, 1) := by decide +kernel
theorem dL_setWatch_13 : decode cL_setWatch 13 = .ok (.lastore, 1) := by decide +kernel
theorem dL_setWatch_14 : decode cL_setWatch 14 = .ok (.goto 11, 3) := by decide +kernel
theorem dL_setWatch_17 : decode cL_setWatch 17 = .ok (.astore 6, 2) := by decide +kernel
theorem dL_setWatch_19 : decode cL_setWatch 19 = .ok (.iconst 1, 1) := by decide +kernel
theorem dL_setWatch_20 : decode cL_setWatch 20 = .ok (.ireturn, 1) := by decide +kernel
theorem dL_setWatch_21 : decode cL_setWatch 21 = .ok (.astore 6, 2) := by decide +kernel
theorem dL_setWatch_23 : decode cL_setWatch 23 = .ok (.iconst 2, 1) := by decide +kernel
theorem dL_setWatch_24 : decode cL_setWatch 24 = .ok (.ireturn, 1) := by decide +kernel
theorem dL_setWatch_25 : decode cL_setWatch 25 = .ok (.iconst 0, 1) := by decide +kernel
theorem dL_setWatch_26 : decode cL_setWatch 26 = .ok (.ireturn, 1) := by decide +kernel
theorem dL_byteAt_0 : decode cL_byteAt 0 = .ok (.aload_n 2, 1) := by decide +kernel
theorem dL_byteAt_1 : decode cL_byteAt 1 = .ok (.iconst 0, 1) := by decide +kernel
theorem dL_byteAt_2 : decode cL_byteAt 2 = .ok (.aload_n 0, 1) := by decide +kernel
theorem dL_byteAt_3 : decode cL_byteAt 3 = .ok (.iload_n 1, 1) := by decide +kernel
theorem dL_byteAt_4 : decode cL_byteAt 4 = .ok (.invokevirtual 55, 3) := by decide +kernel
theorem dL_byteAt_7 : decode cL_byteAt 7 = .ok (.i2l, 1) := by decide +kernel
theorem dL_byteAt_8 : decode cL_byteAt 8 = .ok (.lastore, 1) := by decide +kernel
theorem dL_byteAt_9 : decode cL_byteAt 9 = .ok (.goto 6, 3) := by decide +kernel
theorem dL_byteAt_12 : decode cL_byteAt 12 = .ok (.astore_n 3, 1) := by decide +kernel
theorem dL_byteAt_13 : decode cL_byteAt 13 = .ok (.iconst 1, 1) := by decide +kernel
theorem dL_byteAt_14 : decode cL_byteAt 14 = .ok (.ireturn, 1) := by decide +kernel
theorem dL_byteAt_15 : decode cL_byteAt 15 = .ok (.iconst 0, 1) := by decide +kernel
theorem dL_byteAt_16 : decode cL_byteAt 16 = .ok (.ireturn, 1) := by decide +kernel
theorem dL_byteIn_0 : decode cL_byteIn 0 = .ok (.aload_n 3, 1) := by decide +kernel
theorem dL_byteIn_1 : decode cL_byteIn 1 = .ok (.iconst 0, 1) := by decide +kernel
theorem dL_byteIn_2 : decode cL_byteIn 2 = .ok (.aload_n 0, 1) := by decide +kernel
theorem dL_byteIn_3 : decode cL_byteIn 3 = .ok (.iload_n 1, 1) := by decide +kernel
theorem dL_byteIn_4 : decode cL_byteIn 4 = .ok (.iload_n 2, 1) := by decide +kernel
theorem dL_byteIn_5 : decode cL_byteIn 5 = .ok (.invokevirtual 58, 3) := by decide +kernel
theorem dL_byteIn_8 : decode cL_byteIn 8 = .ok (.i2l, 1) := by decide +kernel
theorem dL_byteIn_9 : decode cL_byteIn 9 = .ok (.lastore, 1) := by decide +kernel
theorem dL_byteIn_10 : decode cL_byteIn 10 = .ok (.goto 11, 3) := by decide +kernel
theorem dL_byteIn_13 : decode cL_byteIn 13 = .ok (.astore 4, 2) := by decide +kernel
theorem dL_byteIn_15 : decode cL_byteIn 15 = .ok (.iconst 1, 1) := by decide +kernel
theorem dL_byteIn_16 : decode cL_byteIn 16 = .ok (.ireturn, 1) := by decide +kernel
theorem dL_byteIn_17 : decode cL_byteIn 17 = .ok (.astore 4, 2) := by decide +kernel
theorem dL_byteIn_19 : decode cL_byteIn 19 = .ok (.iconst 2, 1) := by decide +kernel
theorem dL_byteIn_20 : decode cL_byteIn 20 = .ok (.ireturn, 1) := by decide +kernel
theorem dL_byteIn_21 : decode cL_byteIn 21 = .ok (.iconst 0, 1) := by decide +kernel
theorem dL_byteIn_22 : decode cL_byteIn 22 = .ok (.ireturn, 1) := by decide +kernel
theorem dL_outputAt_0 : decode cL_outputAt 0 = .ok (.aload_n 2, 1) := by decide +kernel
theorem dL_outputAt_1 : decode cL_outputAt 1 = .ok (.iconst 0, 1) := by decide +kernel
theorem dL_outputAt_2 : decode cL_outputAt 2 = .ok (.aload_n 0, 1) := by decide +kernel
theorem dL_outputAt_3 : decode cL_outputAt 3 = .ok (.iload_n 1, 1) := by decide +kernel
theorem dL_outputAt_4 : decode cL_outputAt 4 = .ok (.invokevirtual 61, 3) := by decide +kernel
theorem dL_outputAt_7 : decode cL_outputAt 7 = .ok (.i2l, 1) := by decide +kernel
theorem dL_outputAt_8 : decode cL_outputAt 8 = .ok (.lastore, 1) := by decide +kernel
theorem dL_outputAt_9 : decode cL_outputAt 9 = .ok (.goto 6, 3) := by decide +kernel
theorem dL_outputAt_12 : decode cL_outputAt 12 = .ok (.astore_n 3, 1) := by decide +kernel
theorem dL_outputAt_13 : decode cL_outputAt 13 = .ok (.iconst 1, 1) := by decide +kernel
theorem dL_outputAt_14 : decode cL_outputAt 14 = .ok (.ireturn, 1) := by decide +kernel
theorem dL_outputAt_15 : decode cL_outputAt 15 = .ok (.iconst 0, 1) := by decide +kernel
theorem dL_outputAt_16 : decode cL_outputAt 16 = .ok (.ireturn, 1) := by decide +kernel
theorem dL_callAt_0 : decode cL_callAt 0 = .ok (.aload_n 2, 1) := by decide +kernel
theorem dL_callAt_1 : decode cL_callAt 1 = .ok (.iconst 0, 1) := by decide +kernel
theorem dL_callAt_2 : decode cL_callAt 2 = .ok (.aload_n 0, 1) := by decide +kernel
theorem dL_callAt_3 : decode cL_callAt 3 = .ok (.iload_n 1, 1) := by decide +kernel
theorem dL_callAt_4 : decode cL_callAt 4 = .ok (.invokevirtual 64, 3) := by decide +kernel
theorem dL_callAt_7 : decode cL_callAt 7 = .ok (.i2l, 1) := by decide +kernel
theorem dL_callAt_8 : decode cL_callAt 8 = .ok (.lastore, 1) := by decide +kernel
theorem dL_callAt_9 : decode cL_callAt 9 = .ok (.goto 6, 3) := by decide +kernel
theorem dL_callAt_12 : decode cL_callAt 12 = .ok (.astore_n 3, 1) := by decide +kernel
theorem dL_callAt_13 : decode cL_callAt 13 = .ok (.iconst 1, 1) := by decide +kernel
theorem dL_callAt_14 : decode cL_callAt 14 = .ok (.ireturn, 1) := by decide +kernel
theorem dL_callAt_15 : decode cL_callAt 15 = .ok (.iconst 0, 1) := by decide +kernel
theorem dL_callAt_16 : decode cL_callAt 16 = .ok (.ireturn, 1) := by decide +kernel
theorem dL_timesAt_0 : decode cL_timesAt 0 = .ok (.aload_n 2, 1) := by decide +kernel
theorem dL_timesAt_1 : decode cL_timesAt 1 = .ok (.iconst 0, 1) := by decide +kernel
theorem dL_timesAt_2 : decode cL_timesAt 2 = .ok (.aload_n 0, 1) := by decide +kernel
theorem dL_timesAt_3 : decode cL_timesAt 3 = .ok (.iload_n 1, 1) := by decide +kernel
theorem dL_timesAt_4 : decode cL_timesAt 4 = .ok (.invokevirtual 67, 3) := by decide +kernel
theorem dL_timesAt_7 : decode cL_timesAt 7 = .ok (.i2l, 1) := by decide +kernel
theorem dL_timesAt_8 : decode cL_timesAt 8 = .ok (.lastore, 1) := by decide +kernel
theorem dL_timesAt_9 : decode cL_timesAt 9 = .ok (.goto 6, 3) := by decide +kernel
theorem dL_timesAt_12 : decode cL_timesAt 12 = .ok (.astore_n 3, 1) := by decide +kernel
theorem dL_timesAt_13 : decode cL_timesAt 13 = .ok (.iconst 1, 1) := by decide +kernel
theorem dL_timesAt_14 : decode cL_timesAt 14 = .ok (.ireturn, 1) := by decide +kernel
theorem dL_timesAt_15 : decode cL_timesAt 15 = .ok (.iconst 0, 1) := by decide +kernel
theorem dL_timesAt_16 : decode cL_timesAt 16 = .ok (.ireturn, 1) := by decide +kernel
theorem dL_codeAt_0 : decode cL_codeAt 0 = .ok (.aload_n 2, 1) := by decide +kernel
theorem dL_codeAt_1 : decode cL_codeAt 1 = .ok (.iconst 0, 1) := by decide +kernel
theorem dL_codeAt_2 : decode cL_codeAt 2 = .ok (.aload_n 0, 1) := by decide +kernel
theorem dL_codeAt_3 : decode cL_codeAt 3 = .ok (.iload_n 1, 1) := by decide +kernel
theorem dL_codeAt_4 : decode cL_codeAt 4 = .ok (.invokevirtual 70, 3) := by decide +kernel
theorem dL_codeAt_7 : decode cL_codeAt 7 = .ok (.i2l, 1) := by decide +kernel
theorem dL_codeAt_8 : decode cL_codeAt 8 = .ok (.lastore, 1) := by decide +kernel
theorem dL_codeAt_9 : decode cL_codeAt 9 = .ok (.goto 6, 3) := by decide +kernel
theorem dL_codeAt_12 : decode cL_codeAt 12 = .ok (.astore_n 3, 1) := by decide +kernel
theorem dL_codeAt_13 : decode cL_codeAt 13 = .ok (.iconst 1, 1) := by decide +kernel
theorem dL_codeAt_14 : decode cL_codeAt 14 = .ok (.ireturn, 1) := by decide +kernel
theorem dL_codeAt_15 : decode cL_codeAt 15 = .ok (.iconst 0, 1) := by decide +kernel
theorem dL_codeAt_16 : decode cL_codeAt 16 = .ok (.ireturn, 1) := by decide +kernel
theorem dL_lengthAt_0 : decode cL_lengthAt 0 = .ok (.aload_n 2, 1) := by decide +kernel
theorem dL_lengthAt_1 : decode cL_lengthAt 1 = .ok (.iconst 0, 1) := by decide +kernel
theorem dL_lengthAt_2 : decode cL_lengthAt 2 = .ok (.aload_n 0, 1) := by decide +kernel
theorem dL_lengthAt_3 : decode cL_lengthAt 3 = .ok (.iload_n 1, 1) := by decide +kernel
theorem dL_lengthAt_4 : decode cL_lengthAt 4 = .ok (.invokevirtual 73, 3) := by decide +kernel
theorem dL_lengthAt_7 : decode cL_lengthAt 7 = .ok (.i2l, 1) := by decide +kernel
theorem dL_lengthAt_8 : decode cL_lengthAt 8 = .ok (.lastore, 1) := by decide +kernel
theorem dL_lengthAt_9 : decode cL_lengthAt 9 = .ok (.goto 6, 3) := by decide +kernel
theorem dL_lengthAt_12 : decode cL_lengthAt 12 = .ok (.astore_n 3, 1) := by decide +kernel
theorem dL_lengthAt_13 : decode cL_lengthAt 13 = .ok (.iconst 1, 1) := by decide +kernel
theorem dL_lengthAt_14 : decode cL_lengthAt 14 = .ok (.ireturn, 1) := by decide +kernel
theorem dL_lengthAt_15 : decode cL_lengthAt 15 = .ok (.iconst 0, 1) := by decide +kernel
theorem dL_lengthAt_16 : decode cL_lengthAt 16 = .ok (.ireturn, 1) := by decide +kernel
theorem dL_operandAt_0 : decode cL_operandAt 0 = .ok (.aload_n 2, 1) := by decide +kernel
theorem dL_operandAt_1 : decode cL_operandAt 1 = .ok (.iconst 0, 1) := by decide +kernel
theorem dL_operandAt_2 : decode cL_operandAt 2 = .ok (.aload_n 0, 1) := by decide +kernel
theorem dL_operandAt_3 : decode cL_operandAt 3 = .ok (.iload_n 1, 1) := by decide +kernel
theorem dL_operandAt_4 : decode cL_operandAt 4 = .ok (.invokevirtual 76, 3) := by decide +kernel
theorem dL_operandAt_7 : decode cL_operandAt 7 = .ok (.i2l, 1) := by decide +kernel
theorem dL_operandAt_8 : decode cL_operandAt 8 = .ok (.lastore, 1) := by decide +kernel
theorem dL_operandAt_9 : decode cL_operandAt 9 = .ok (.goto 6, 3) := by decide +kernel
theorem dL_operandAt_12 : decode cL_operandAt 12 = .ok (.astore_n 3, 1) := by decide +kernel
theorem dL_operandAt_13 : decode cL_operandAt 13 = .ok (.iconst 1, 1) := by decide +kernel
theorem dL_operandAt_14 : decode cL_operandAt 14 = .ok (.ireturn, 1) := by decide +kernel
theorem dL_operandAt_15 : decode cL_operandAt 15 = .ok (.iconst 0, 1) := by decide +kernel
theorem dL_operandAt_16 : decode cL_operandAt 16 = .ok (.ireturn, 1) := by decide +kernel
theorem dL_cyclesToHalt_0 : decode cL_cyclesToHalt 0 = .ok (.aload_n 2, 1) := by decide +kernel
theorem dL_cyclesToHalt_1 : decode cL_cyclesToHalt 1 = .ok (.iconst 0, 1) := by decide +kernel
theorem dL_cyclesToHalt_2 : decode cL_cyclesToHalt 2 = .ok (.aload_n 0, 1) := by decide +kernel
theorem dL_cyclesToHalt_3 : decode cL_cyclesToHalt 3 = .ok (.iload_n 1, 1) := by decide +kernel
theorem dL_cyclesToHalt_4 : decode cL_cyclesToHalt 4 = .ok (.invokevirtual 79, 3) := by decide +kernel
theorem dL_cyclesToHalt_7 : decode cL_cyclesToHalt 7 = .ok (.i2l, 1) := by decide +kernel
theorem dL_cyclesToHalt_8 : decode cL_cyclesToHalt 8 = .ok (.lastore, 1) := by decide +kernel
theorem dL_cyclesToHalt_9 : decode cL_cyclesToHalt 9 = .ok (.goto 6, 3) := by decide +kernel
theorem dL_cyclesToHalt_12 : decode cL_cyclesToHalt 12 = .ok (.astore_n 3, 1) := by decide +kernel
theorem dL_cyclesToHalt_13 : decode cL_cyclesToHalt 13 = .ok (.iconst 1, 1) := by decide +kernel
theorem dL_cyclesToHalt_14 : decode cL_cyclesToHalt 14 = .ok (.ireturn, 1) := by decide +kernel
theorem dL_cyclesToHalt_15 : decode cL_cyclesToHalt 15 = .ok (.iconst 0, 1) := by decide +kernel
theorem dL_cyclesToHalt_16 : decode cL_cyclesToHalt 16 = .ok (.ireturn, 1) := by decide +kernel
theorem dL_cyclesToReach_0 : decode cL_cyclesToReach 0 = .ok (.aload_n 3, 1) := by decide +kernel
theorem dL_cyclesToReach_1 : decode cL_cyclesToReach 1 = .ok (.iconst 0, 1) := by decide +kernel
theorem dL_cyclesToReach_2 : decode cL_cyclesToReach 2 = .ok (.aload_n 0, 1) := by decide +kernel
theorem dL_cyclesToReach_3 : decode cL_cyclesToReach 3 = .ok (.iload_n 1, 1) := by decide +kernel
theorem dL_cyclesToReach_4 : decode cL_cyclesToReach 4 = .ok (.iload_n 2, 1) := by decide +kernel
theorem dL_cyclesToReach_5 : decode cL_cyclesToReach 5 = .ok (.invokevirtual 82, 3) := by decide +kernel
theorem dL_cyclesToReach_8 : decode cL_cyclesToReach 8 = .ok (.i2l, 1) := by decide +kernel
theorem dL_cyclesToReach_9 : decode cL_cyclesToReach 9 = .ok (.lastore, 1) := by decide +kernel
theorem dL_cyclesToReach_10 : decode cL_cyclesToReach 10 = .ok (.goto 7, 3) := by decide +kernel
theorem dL_cyclesToReach_13 : decode cL_cyclesToReach 13 = .ok (.astore 4, 2) := by decide +kernel
theorem dL_cyclesToReach_15 : decode cL_cyclesToReach 15 = .ok (.iconst 1, 1) := by decide +kernel
theorem dL_cyclesToReach_16 : decode cL_cyclesToReach 16 = .ok (.ireturn, 1) := by decide +kernel
theorem dL_cyclesToReach_17 : decode cL_cyclesToReach 17 = .ok (.iconst 0, 1) := by decide +kernel
theorem dL_cyclesToReach_18 : decode cL_cyclesToReach 18 = .ok (.ireturn, 1) := by decide +kernel
theorem dL_outputsIn_0 : decode cL_outputsIn 0 = .ok (.aload_n 2, 1) := by decide +kernel
theorem dL_outputsIn_1 : decode cL_outputsIn 1 = .ok (.iconst 0, 1) := by decide +kernel
theorem dL_outputsIn_2 : decode cL_outputsIn 2 = .ok (.aload_n 0, 1) := by decide +kernel
theorem dL_outputsIn_3 : decode cL_outputsIn 3 = .ok (.iload_n 1, 1) := by decide +kernel
theorem dL_outputsIn_4 : decode cL_outputsIn 4 = .ok (.invokevirtual 85, 3) := by decide +kernel
theorem dL_outputsIn_7 : decode cL_outputsIn 7 = .ok (.i2l, 1) := by decide +kernel
theorem dL_outputsIn_8 : decode cL_outputsIn 8 = .ok (.lastore, 1) := by decide +kernel
theorem dL_outputsIn_9 : decode cL_outputsIn 9 = .ok (.goto 6, 3) := by decide +kernel
theorem dL_outputsIn_12 : decode cL_outputsIn 12 = .ok (.astore_n 3, 1) := by decide +kernel
theorem dL_outputsIn_13 : decode cL_outputsIn 13 = .ok (.iconst 1, 1) := by decide +kernel
theorem dL_outputsIn_14 : decode cL_outputsIn 14 = .ok (.ireturn, 1) := by decide +kernel
theorem dL_outputsIn_15 : decode cL_outputsIn 15 = .ok (.iconst 0, 1) := by decide +kernel
theorem dL_outputsIn_16 : decode cL_outputsIn 16 = .ok (.ireturn, 1) := by decide +kernel
theorem dL_writesIn_0 : decode cL_writesIn 0 = .ok (.aload_n 3, 1) := by decide +kernel
theorem dL_writesIn_1 : decode cL_writesIn 1 = .ok (.iconst 0, 1) := by decide +kernel
theorem dL_writesIn_2 : decode cL_writesIn 2 = .ok (.aload_n 0, 1) := by decide +kernel
theorem dL_writesIn_3 : decode cL_writesIn 3 = .ok (.iload_n 1, 1) := by decide +kernel
theorem dL_writesIn_4 : decode cL_writesIn 4 = .ok (.iload_n 2, 1) := by decide +kernel
theorem dL_writesIn_5 : decode cL_writesIn 5 = .ok (.invokevirtual 88, 3) := by decide +kernel
theorem dL_writesIn_8 : decode cL_writesIn 8 = .ok (.i2l, 1) := by decide +kernel
theorem dL_writesIn_9 : decode cL_writesIn 9 = .ok (.lastore, 1) := by decide +kernel
theorem dL_writesIn_10 : decode cL_writesIn 10 = .ok (.goto 7, 3) := by decide +kernel
theorem dL_writesIn_13 : decode cL_writesIn 13 = .ok (.astore 4, 2) := by decide +kernel
theorem dL_writesIn_15 : decode cL_writesIn 15 = .ok (.iconst 1, 1) := by decide +kernel
theorem dL_writesIn_16 : decode cL_writesIn 16 = .ok (.ireturn, 1) := by decide +kernel
theorem dL_writesIn_17 : decode cL_writesIn 17 = .ok (.iconst 0, 1) := by decide +kernel
theorem dL_writesIn_18 : decode cL_writesIn 18 = .ok (.ireturn, 1) := by decide +kernel
theorem dL_isCode_0 : decode cL_isCode 0 = .ok (.aload_n 2, 1) := by decide +kernel
theorem dL_isCode_1 : decode cL_isCode 1 = .ok (.iconst 0, 1) := by decide +kernel
theorem dL_isCode_2 : decode cL_isCode 2 = .ok (.aload_n 0, 1) := by decide +kernel
theorem dL_isCode_3 : decode cL_isCode 3 = .ok (.iload_n 1, 1) := by decide +kernel
theorem dL_isCode_4 : decode cL_isCode 4 = .ok (.invokevirtual 91, 3) := by decide +kernel
theorem dL_isCode_7 : decode cL_isCode 7 = .ok (.ifCond .eq 7, 3) := by decide +kernel
theorem dL_isCode_10 : decode cL_isCode 10 = .ok (.lconst 1, 1) := by decide +kernel
theorem dL_isCode_11 : decode cL_isCode 11 = .ok (.goto 4, 3) := by decide +kernel
theorem dL_isCode_14 : decode cL_isCode 14 = .ok (.lconst 0, 1) := by decide +kernel
theorem dL_isCode_15 : decode cL_isCode 15 = .ok (.lastore, 1) := by decide +kernel
theorem dL_isCode_16 : decode cL_isCode 16 = .ok (.goto 6, 3) := by decide +kernel
theorem dL_isCode_19 : decode cL_isCode 19 = .ok (.astore_n 3, 1) := by decide +kernel
theorem dL_isCode_20 : decode cL_isCode 20 = .ok (.iconst 1, 1) := by decide +kernel
theorem dL_isCode_21 : decode cL_isCode 21 = .ok (.ireturn, 1) := by decide +kernel
theorem dL_isCode_22 : decode cL_isCode 22 = .ok (.iconst 0, 1) := by decide +kernel
theorem dL_isCode_23 : decode cL_isCode 23 = .ok (.ireturn, 1) := by decide +kernel
theorem dL_law_0 : decode cL_law 0 = .ok (.new 8, 3) := by decide +kernel
theorem dL_law_3 : decode cL_law 3 = .ok (.dup, 1) := by decide +kernel
theorem dL_law_4 : decode cL_law 4 = .ok (.invokespecial 95, 3) := by decide +kernel
theorem dL_law_7 : decode cL_law 7 = .ok (.astore_n 1, 1) := by decide +kernel
theorem dL_law_8 : decode cL_law 8 = .ok (.new 96, 3) := by decide +kernel
theorem dL_law_11 : decode cL_law 11 = .ok (.dup, 1) := by decide +kernel
theorem dL_law_12 : decode cL_law 12 = .ok (.invokespecial 98, 3) := by decide +kernel
theorem dL_law_15 : decode cL_law 15 = .ok (.astore_n 2, 1) := by decide +kernel
theorem dL_law_16 : decode cL_law 16 = .ok (.iconst 1, 1) := by decide +kernel
theorem dL_law_17 : decode cL_law 17 = .ok (.newarray .long, 2) := by decide +kernel
theorem dL_law_19 : decode cL_law 19 = .ok (.astore_n 3, 1) := by decide +kernel
theorem dL_law_20 : decode cL_law 20 = .ok (.iconst 0, 1) := by decide +kernel
theorem dL_law_21 : decode cL_law 21 = .ok (.istore 4, 2) := by decide +kernel
theorem dL_law_23 : decode cL_law 23 = .ok (.iload 4, 2) := by decide +kernel
theorem dL_law_25 : decode cL_law 25 = .ok (.aload_n 0, 1) := by decide +kernel
theorem dL_law_26 : decode cL_law 26 = .ok (.arraylength, 1) := by decide +kernel
theorem dL_law_27 : decode cL_law 27 = .ok (.bipush 6, 2) := by decide +kernel
theorem dL_law_29 : decode cL_law 29 = .ok (.isub, 1) := by decide +kernel
theorem dL_law_30 : decode cL_law 30 = .ok (.if_icmp .gt 2312, 3) := by decide +kernel
theorem dL_law_33 : decode cL_law 33 = .ok (.aload_n 0, 1) := by decide +kernel
theorem dL_law_34 : decode cL_law 34 = .ok (.iload 4, 2) := by decide +kernel
theorem dL_law_36 : decode cL_law 36 = .ok (.iaload, 1) := by decide +kernel
theorem dL_law_37 : decode cL_law 37 = .ok (.bipush 63, 2) := by decide +kernel
theorem dL_law_39 : decode cL_law 39 = .ok (.iand, 1) := by decide +kernel
theorem dL_law_40 : decode cL_law 40 = .ok (.tableswitch 2296 0 56 #[244, 348, 404, 417, 430, 443, 499, 555, 611, 624, 680, 693, 706, 774, 842, 855, 911, 924, 937, 993, 1006, 1019, 1087, 1112, 1236, 1249, 1262, 1275, 1288, 1301, 1314, 1327, 1340, 1353, 1409, 1477, 1490, 1503, 1516, 1529, 1542, 1555, 1611, 1624, 1680, 1736, 1749, 1805, 1861, 1917, 1973, 2041, 2097, 2165, 2228, 2241, 2282], 244) := by decide +kernel
theorem dL_law_284 : decode cL_law 284 = .ok (.aload_n 1, 1) := by decide +kernel
theorem dL_law_285 : decode cL_law 285 = .ok (.aload_n 0, 1) := by decide +kernel
theorem dL_law_286 : decode cL_law 286 = .ok (.iload 4, 2) := by decide +kernel
theorem dL_law_288 : decode cL_law 288 = .ok (.iconst 1, 1) := by decide +kernel
theorem dL_law_289 : decode cL_law 289 = .ok (.iadd, 1) := by decide +kernel
theorem dL_law_290 : decode cL_law 290 = .ok (.iaload, 1) := by decide +kernel
theorem dL_law_291 : decode cL_law 291 = .ok (.aload_n 0, 1) := by decide +kernel
theorem dL_law_292 : decode cL_law 292 = .ok (.iload 4, 2) := by decide +kernel
theorem dL_law_294 : decode cL_law 294 = .ok (.iconst 2, 1) := by decide +kernel
theorem dL_law_295 : decode cL_law 295 = .ok (.iadd, 1) := by decide +kernel
theorem dL_law_296 : decode cL_law 296 = .ok (.iaload, 1) := by decide +kernel
theorem dL_law_297 : decode cL_law 297 = .ok (.aload_n 0, 1) := by decide +kernel
theorem dL_law_298 : decode cL_law 298 = .ok (.iload 4, 2) := by decide +kernel
theorem dL_law_300 : decode cL_law 300 = .ok (.iconst 3, 1) := by decide +kernel
theorem dL_law_301 : decode cL_law 301 = .ok (.iadd, 1) := by decide +kernel
theorem dL_law_302 : decode cL_law 302 = .ok (.iaload, 1) := by decide +kernel
theorem dL_law_303 : decode cL_law 303 = .ok (.aload_n 0, 1) := by decide +kernel
theorem dL_law_304 : decode cL_law 304 = .ok (.iload 4, 2) := by decide +kernel
theorem dL_law_306 : decode cL_law 306 = .ok (.iconst 4, 1) := by decide +kernel
theorem dL_law_307 : decode cL_law 307 = .ok (.iadd, 1) := by decide +kernel
theorem dL_law_308 : decode cL_law 308 = .ok (.iaload, 1) := by decide +kernel
theorem dL_law_309 : decode cL_law 309 = .ok (.aload_n 0, 1) := by decide +kernel
theorem dL_law_310 : decode cL_law 310 = .ok (.iload 4, 2) := by decide +kernel
theorem dL_law_312 : decode cL_law 312 = .ok (.iconst 5, 1) := by decide +kernel
theorem dL_law_313 : decode cL_law 313 = .ok (.iadd, 1) := by decide +kernel
theorem dL_law_314 : decode cL_law 314 = .ok (.iaload, 1) := by decide +kernel
theorem dL_law_315 : decode cL_law 315 = .ok (.aload_n 3, 1) := by decide +kernel
theorem dL_law_316 : decode cL_law 316 = .ok (.invokestatic 99, 3) := by decide +kernel
theorem dL_law_319 : decode cL_law 319 = .ok (.istore 5, 2) := by decide +kernel
theorem dL_law_321 : decode cL_law 321 = .ok (.aload_n 2, 1) := by decide +kernel
theorem dL_law_322 : decode cL_law 322 = .ok (.aload_n 0, 1) := by decide +kernel
theorem dL_law_323 : decode cL_law 323 = .ok (.iload 4, 2) := by decide +kernel
theorem dL_law_325 : decode cL_law 325 = .ok (.iconst 1, 1) := by decide +kernel
theorem dL_law_326 : decode cL_law 326 = .ok (.iadd, 1) := by decide +kernel
theorem dL_law_327 : decode cL_law 327 = .ok (.iaload, 1) := by decide +kernel
theorem dL_law_328 : decode cL_law 328 = .ok (.aload_n 0, 1) := by decide +kernel
theorem dL_law_329 : decode cL_law 329 = .ok (.iload 4, 2) := by decide +kernel
theorem dL_law_331 : decode cL_law 331 = .ok (.iconst 2, 1) := by decide +kernel
theorem dL_law_332 : decode cL_law 332 = .ok (.iadd, 1) := by decide +kernel
theorem dL_law_333 : decode cL_law 333 = .ok (.iaload, 1) := by decide +kernel
theorem dL_law_334 : decode cL_law 334 = .ok (.aload_n 0, 1) := by decide +kernel
theorem dL_law_335 : decode cL_law 335 = .ok (.iload 4, 2) := by decide +kernel
theorem dL_law_337 : decode cL_law 337 = .ok (.iconst 3, 1) := by decide +kernel
theorem dL_law_338 : decode cL_law 338 = .ok (.iadd, 1) := by decide +kernel
theorem dL_law_339 : decode cL_law 339 = .ok (.iaload, 1) := by decide +kernel
theorem dL_law_340 : decode cL_law 340 = .ok (.aload_n 0, 1) := by decide +kernel
theorem dL_law_341 : decode cL_law 341 = .ok (.iload 4, 2) := by decide +kernel
theorem dL_law_343 : decode cL_law 343 = .ok (.iconst 4, 1) := by decide +kernel
theorem dL_law_344 : decode cL_law 344 = .ok (.iadd, 1) := by decide +kernel
theorem dL_law_345 : decode cL_law 345 = .ok (.iaload, 1) := by decide +kernel
theorem dL_law_346 : decode cL_law 346 = .ok (.aload_n 0, 1) := by decide +kernel
theorem dL_law_347 : decode cL_law 347 = .ok (.iload 4, 2) := by decide +kernel
theorem dL_law_349 : decode cL_law 349 = .ok (.iconst 5, 1) := by decide +kernel
theorem dL_law_350 : decode cL_law 350 = .ok (.iadd, 1) := by decide +kernel
theorem dL_law_351 : decode cL_law 351 = .ok (.iaload, 1) := by decide +kernel
theorem dL_law_352 : decode cL_law 352 = .ok (.invokevirtual 104, 3) := by decide +kernel
theorem dL_law_355 : decode cL_law 355 = .ok (.istore 6, 2) := by decide +kernel
theorem dL_law_357 : decode cL_law 357 = .ok (.aload_n 2, 1) := by decide +kernel
theorem dL_law_358 : decode cL_law 358 = .ok (.invokevirtual 105, 3) := by decide +kernel
theorem dL_law_361 : decode cL_law 361 = .ok (.iload 5, 2) := by decide +kernel
theorem dL_law_363 : decode cL_law 363 = .ok (.if_icmp .eq 5, 3) := by decide +kernel
theorem dL_law_366 : decode cL_law 366 = .ok (.iconst 0, 1) := by decide +kernel
theorem dL_law_367 : decode cL_law 367 = .ok (.ireturn, 1) := by decide +kernel
theorem dL_law_368 : decode cL_law 368 = .ok (.iload 5, 2) := by decide +kernel
theorem dL_law_370 : decode cL_law 370 = .ok (.ifCond .ne 15, 3) := by decide +kernel
theorem dL_law_373 : decode cL_law 373 = .ok (.aload_n 3, 1) := by decide +kernel
theorem dL_law_374 : decode cL_law 374 = .ok (.iconst 0, 1) := by decide +kernel
theorem dL_law_375 : decode cL_law 375 = .ok (.laload, 1) := by decide +kernel
theorem dL_law_376 : decode cL_law 376 = .ok (.iload 6, 2) := by decide +kernel
theorem dL_law_378 : decode cL_law 378 = .ok (.i2l, 1) := by decide +kernel
theorem dL_law_379 : decode cL_law 379 = .ok (.lcmp, 1) := by decide +kernel
theorem dL_law_380 : decode cL_law 380 = .ok (.ifCond .eq 5, 3) := by decide +kernel
theorem dL_law_383 : decode cL_law 383 = .ok (.iconst 0, 1) := by decide +kernel
theorem dL_law_384 : decode cL_law 384 = .ok (.ireturn, 1) := by decide +kernel
theorem dL_law_385 : decode cL_law 385 = .ok (.goto 1951, 3) := by decide +kernel
theorem dL_law_388 : decode cL_law 388 = .ok (.aload_n 1, 1) := by decide +kernel
theorem dL_law_389 : decode cL_law 389 = .ok (.aload_n 0, 1) := by decide +kernel
theorem dL_law_390 : decode cL_law 390 = .ok (.iload 4, 2) := by decide +kernel
theorem dL_law_392 : decode cL_law 392 = .ok (.iconst 1, 1) := by decide +kernel
theorem dL_law_393 : decode cL_law 393 = .ok (.iadd, 1) := by decide +kernel
theorem dL_law_394 : decode cL_law 394 = .ok (.iaload, 1) := by decide +kernel
theorem dL_law_395 : decode cL_law 395 = .ok (.aload_n 3, 1) := by decide +kernel
theorem dL_law_396 : decode cL_law 396 = .ok (.invokestatic 109, 3) := by decide +kernel
theorem dL_law_399 : decode cL_law 399 = .ok (.istore 5, 2) := by decide +kernel
theorem dL_law_401 : decode cL_law 401 = .ok (.aload_n 2, 1) := by decide +kernel
theorem dL_law_402 : decode cL_law 402 = .ok (.aload_n 0, 1) := by decide +kernel
theorem dL_law_403 : decode cL_law 403 = .ok (.iload 4, 2) := by decide +kernel
theorem dL_law_405 : decode cL_law 405 = .ok (.iconst 1, 1) := by decide +kernel
theorem dL_law_406 : decode cL_law 406 = .ok (.iadd, 1) := by decide +kernel
theorem dL_law_407 : decode cL_law 407 = .ok (.iaload, 1) := by decide +kernel
theorem dL_law_408 : decode cL_law 408 = .ok (.invokevirtual 112, 3) := by decide +kernel
theorem dL_law_411 : decode cL_law 411 = .ok (.istore 6, 2) := by decide +kernel
theorem dL_law_413 : decode cL_law 413 = .ok (.aload_n 2, 1) := by decide +kernel
theorem dL_law_414 : decode cL_law 414 = .ok (.invokevirtual 105, 3) := by decide +kernel
theorem dL_law_417 : decode cL_law 417 = .ok (.iload 5, 2) := by decide +kernel
theorem dL_law_419 : decode cL_law 419 = .ok (.if_icmp .eq 5, 3) := by decide +kernel
theorem dL_law_422 : decode cL_law 422 = .ok (.iconst 0, 1) := by decide +kernel
theorem dL_law_423 : decode cL_law 423 = .ok (.ireturn, 1) := by decide +kernel
theorem dL_law_424 : decode cL_law 424 = .ok (.iload 5, 2) := by decide +kernel
theorem dL_law_426 : decode cL_law 426 = .ok (.ifCond .ne 15, 3) := by decide +kernel
theorem dL_law_429 : decode cL_law 429 = .ok (.aload_n 3, 1) := by decide +kernel
theorem dL_law_430 : decode cL_law 430 = .ok (.iconst 0, 1) := by decide +kernel
theorem dL_law_431 : decode cL_law 431 = .ok (.laload, 1) := by decide +kernel
theorem dL_law_432 : decode cL_law 432 = .ok (.iload 6, 2) := by decide +kernel
theorem dL_law_434 : decode cL_law 434 = .ok (.i2l, 1) := by decide +kernel
theorem dL_law_435 : decode cL_law 435 = .ok (.lcmp, 1) := by decide +kernel
theorem dL_law_436 : decode cL_law 436 = .ok (.ifCond .eq 5, 3) := by decide +kernel
theorem dL_law_439 : decode cL_law 439 = .ok (.iconst 0, 1) := by decide +kernel
theorem dL_law_440 : decode cL_law 440 = .ok (.ireturn, 1) := by decide +kernel
theorem dL_law_441 : decode cL_law 441 = .ok (.goto 1895, 3) := by decide +kernel
theorem dL_law_444 : decode cL_law 444 = .ok (.aload_n 1, 1) := by decide +kernel
theorem dL_law_445 : decode cL_law 445 = .ok (.invokevirtual 113, 3) := by decide +kernel
theorem dL_law_448 : decode cL_law 448 = .ok (.aload_n 2, 1) := by decide +kernel
theorem dL_law_449 : decode cL_law 449 = .ok (.invokevirtual 116, 3) := by decide +kernel
theorem dL_law_452 : decode cL_law 452 = .ok (.if_icmp .eq 1884, 3) := by decide +kernel
theorem dL_law_455 : decode cL_law 455 = .ok (.iconst 0, 1) := by decide +kernel
theorem dL_law_456 : decode cL_law 456 = .ok (.ireturn, 1) := by decide +kernel
theorem dL_law_457 : decode cL_law 457 = .ok (.aload_n 1, 1) := by decide +kernel
theorem dL_law_458 : decode cL_law 458 = .ok (.invokevirtual 117, 3) := by decide +kernel
theorem dL_law_461 : decode cL_law 461 = .ok (.aload_n 2, 1) := by decide +kernel
theorem dL_law_462 : decode cL_law 462 = .ok (.invokevirtual 120, 3) := by decide +kernel
theorem dL_law_465 : decode cL_law 465 = .ok (.if_icmp .eq 1871, 3) := by decide +kernel
theorem dL_law_468 : decode cL_law 468 = .ok (.iconst 0, 1) := by decide +kernel
theorem dL_law_469 : decode cL_law 469 = .ok (.ireturn, 1) := by decide +kernel
theorem dL_law_470 : decode cL_law 470 = .ok (.aload_n 1, 1) := by decide +kernel
theorem dL_law_471 : decode cL_law 471 = .ok (.invokevirtual 121, 3) := by decide +kernel
theorem dL_law_474 : decode cL_law 474 = .ok (.aload_n 2, 1) := by decide +kernel
theorem dL_law_475 : decode cL_law 475 = .ok (.invokevirtual 124, 3) := by decide +kernel
theorem dL_law_478 : decode cL_law 478 = .ok (.if_icmp .eq 1858, 3) := by decide +kernel
theorem dL_law_481 : decode cL_law 481 = .ok (.iconst 0, 1) := by decide +kernel
theorem dL_law_482 : decode cL_law 482 = .ok (.ireturn, 1) := by decide +kernel
theorem dL_law_483 : decode cL_law 483 = .ok (.aload_n 1, 1) := by decide +kernel
theorem dL_law_484 : decode cL_law 484 = .ok (.aload_n 0, 1) := by decide +kernel
theorem dL_law_485 : decode cL_law 485 = .ok (.iload 4, 2) := by decide +kernel
theorem dL_law_487 : decode cL_law 487 = .ok (.iconst 1, 1) := by decide +kernel
theorem dL_law_488 : decode cL_law 488 = .ok (.iadd, 1) := by decide +kernel
theorem dL_law_489 : decode cL_law 489 = .ok (.iaload, 1) := by decide +kernel
theorem dL_law_490 : decode cL_law 490 = .ok (.aload_n 3, 1) := by decide +kernel
theorem dL_law_491 : decode cL_law 491 = .ok (.invokestatic 125, 3) := by decide +kernel
theorem dL_law_494 : decode cL_law 494 = .ok (.istore 5, 2) := by decide +kernel
theorem dL_law_496 : decode cL_law 496 = .ok (.aload_n 2, 1) := by decide +kernel
theorem dL_law_497 : decode cL_law 497 = .ok (.aload_n 0, 1) := by decide +kernel
theorem dL_law_498 : decode cL_law 498 = .ok (.iload 4, 2) := by decide +kernel
theorem dL_law_500 : decode cL_law 500 = .ok (.iconst 1, 1) := by decide +kernel
theorem dL_law_501 : decode cL_law 501 = .ok (.iadd, 1) := by decide +kernel
theorem dL_law_502 : decode cL_law 502 = .ok (.iaload, 1) := by decide +kernel
theorem dL_law_503 : decode cL_law 503 = .ok (.invokevirtual 127, 3) := by decide +kernel
theorem dL_law_506 : decode cL_law 506 = .ok (.istore 6, 2) := by decide +kernel
theorem dL_law_508 : decode cL_law 508 = .ok (.aload_n 2, 1) := by decide +kernel
theorem dL_law_509 : decode cL_law 509 = .ok (.invokevirtual 105, 3) := by decide +kernel
theorem dL_law_512 : decode cL_law 512 = .ok (.iload 5, 2) := by decide +kernel
theorem dL_law_514 : decode cL_law 514 = .ok (.if_icmp .eq 5, 3) := by decide +kernel
theorem dL_law_517 : decode cL_law 517 = .ok (.iconst 0, 1) := by decide +kernel
theorem dL_law_518 : decode cL_law 518 = .ok (.ireturn, 1) := by decide +kernel
theorem dL_law_519 : decode cL_law 519 = .ok (.iload 5, 2) := by decide +kernel
theorem dL_law_521 : decode cL_law 521 = .ok (.ifCond .ne 15, 3) := by decide +kernel
theorem dL_law_524 : decode cL_law 524 = .ok (.aload_n 3, 1) := by decide +kernel
theorem dL_law_525 : decode cL_law 525 = .ok (.iconst 0, 1) := by decide +kernel
theorem dL_law_526 : decode cL_law 526 = .ok (.laload, 1) := by decide +kernel
theorem dL_law_527 : decode cL_law 527 = .ok (.iload 6, 2) := by decide +kernel
theorem dL_law_529 : decode cL_law 529 = .ok (.i2l, 1) := by decide +kernel
theorem dL_law_530 : decode cL_law 530 = .ok (.lcmp, 1) := by decide +kernel
theorem dL_law_531 : decode cL_law 531 = .ok (.ifCond .eq 5, 3) := by decide +kernel
theorem dL_law_534 : decode cL_law 534 = .ok (.iconst 0, 1) := by decide +kernel
theorem dL_law_535 : decode cL_law 535 = .ok (.ireturn, 1) := by decide +kernel
theorem dL_law_536 : decode cL_law 536 = .ok (.goto 1800, 3) := by decide +kernel
theorem dL_law_539 : decode cL_law 539 = .ok (.aload_n 1, 1) := by decide +kernel
theorem dL_law_540 : decode cL_law 540 = .ok (.aload_n 0, 1) := by decide +kernel
theorem dL_law_541 : decode cL_law 541 = .ok (.iload 4, 2) := by decide +kernel
theorem dL_law_543 : decode cL_law 543 = .ok (.iconst 1, 1) := by decide +kernel
theorem dL_law_544 : decode cL_law 544 = .ok (.iadd, 1) := by decide +kernel
theorem dL_law_545 : decode cL_law 545 = .ok (.iaload, 1) := by decide +kernel
theorem dL_law_546 : decode cL_law 546 = .ok (.aload_n 3, 1) := by decide +kernel
theorem dL_law_547 : decode cL_law 547 = .ok (.invokestatic 128, 3) := by decide +kernel
theorem dL_law_550 : decode cL_law 550 = .ok (.istore 5, 2) := by decide +kernel
theorem dL_law_552 : decode cL_law 552 = .ok (.aload_n 2, 1) := by decide +kernel
theorem dL_law_553 : decode cL_law 553 = .ok (.aload_n 0, 1) := by decide +kernel
theorem dL_law_554 : decode cL_law 554 = .ok (.iload 4, 2) := by decide +kernel
theorem dL_law_556 : decode cL_law 556 = .ok (.iconst 1, 1) := by decide +kernel
theorem dL_law_557 : decode cL_law 557 = .ok (.iadd, 1) := by decide +kernel
theorem dL_law_558 : decode cL_law 558 = .ok (.iaload, 1) := by decide +kernel
theorem dL_law_559 : decode cL_law 559 = .ok (.invokevirtual 130, 3) := by decide +kernel
theorem dL_law_562 : decode cL_law 562 = .ok (.istore 6, 2) := by decide +kernel
theorem dL_law_564 : decode cL_law 564 = .ok (.aload_n 2, 1) := by decide +kernel
theorem dL_law_565 : decode cL_law 565 = .ok (.invokevirtual 105, 3) := by decide +kernel
theorem dL_law_568 : decode cL_law 568 = .ok (.iload 5, 2) := by decide +kernel
theorem dL_law_570 : decode cL_law 570 = .ok (.if_icmp .eq 5, 3) := by decide +kernel
theorem dL_law_573 : decode cL_law 573 = .ok (.iconst 0, 1) := by decide +kernel
theorem dL_law_574 : decode cL_law 574 = .ok (.ireturn, 1) := by decide +kernel
theorem dL_law_575 : decode cL_law 575 = .ok (.iload 5, 2) := by decide +kernel
theorem dL_law_577 : decode cL_law 577 = .ok (.ifCond .ne 15, 3) := by decide +kernel
theorem dL_law_580 : decode cL_law 580 = .ok (.aload_n 3, 1) := by decide +kernel
theorem dL_law_581 : decode cL_law 581 = .ok (.iconst 0, 1) := by decide +kernel
theorem dL_law_582 : decode cL_law 582 = .ok (.laload, 1) := by decide +kernel
theorem dL_law_583 : decode cL_law 583 = .ok (.iload 6, 2) := by decide +kernel
theorem dL_law_585 : decode cL_law 585 = .ok (.i2l, 1) := by decide +kernel
theorem dL_law_586 : decode cL_law 586 = .ok (.lcmp, 1) := by decide +kernel
theorem dL_law_587 : decode cL_law 587 = .ok (.ifCond .eq 5, 3) := by decide +kernel
theorem dL_law_590 : decode cL_law 590 = .ok (.iconst 0, 1) := by decide +kernel
theorem dL_law_591 : decode cL_law 591 = .ok (.ireturn, 1) := by decide +kernel
theorem dL_law_592 : decode cL_law 592 = .ok (.goto 1744, 3) := by decide +kernel
theorem dL_law_595 : decode cL_law 595 = .ok (.aload_n 1, 1) := by decide +kernel
theorem dL_law_596 : decode cL_law 596 = .ok (.aload_n 0, 1) := by decide +kernel
theorem dL_law_597 : decode cL_law 597 = .ok (.iload 4, 2) := by decide +kernel
theorem dL_law_599 : decode cL_law 599 = .ok (.iconst 1, 1) := by decide +kernel
theorem dL_law_600 : decode cL_law 600 = .ok (.iadd, 1) := by decide +kernel
theorem dL_law_601 : decode cL_law 601 = .ok (.iaload, 1) := by decide +kernel
theorem dL_law_602 : decode cL_law 602 = .ok (.aload_n 3, 1) := by decide +kernel
theorem dL_law_603 : decode cL_law 603 = .ok (.invokestatic 131, 3) := by decide +kernel
theorem dL_law_606 : decode cL_law 606 = .ok (.istore 5, 2) := by decide +kernel
theorem dL_law_608 : decode cL_law 608 = .ok (.aload_n 2, 1) := by decide +kernel
theorem dL_law_609 : decode cL_law 609 = .ok (.aload_n 0, 1) := by decide +kernel
theorem dL_law_610 : decode cL_law 610 = .ok (.iload 4, 2) := by decide +kernel
theorem dL_law_612 : decode cL_law 612 = .ok (.iconst 1, 1) := by decide +kernel
theorem dL_law_613 : decode cL_law 613 = .ok (.iadd, 1) := by decide +kernel
theorem dL_law_614 : decode cL_law 614 = .ok (.iaload, 1) := by decide +kernel
theorem dL_law_615 : decode cL_law 615 = .ok (.invokevirtual 133, 3) := by decide +kernel
theorem dL_law_618 : decode cL_law 618 = .ok (.istore 6, 2) := by decide +kernel
theorem dL_law_620 : decode cL_law 620 = .ok (.aload_n 2, 1) := by decide +kernel
theorem dL_law_621 : decode cL_law 621 = .ok (.invokevirtual 105, 3) := by decide +kernel
theorem dL_law_624 : decode cL_law 624 = .ok (.iload 5, 2) := by decide +kernel
theorem dL_law_626 : decode cL_law 626 = .ok (.if_icmp .eq 5, 3) := by decide +kernel
theorem dL_law_629 : decode cL_law 629 = .ok (.iconst 0, 1) := by decide +kernel
theorem dL_law_630 : decode cL_law 630 = .ok (.ireturn, 1) := by decide +kernel
theorem dL_law_631 : decode cL_law 631 = .ok (.iload 5, 2) := by decide +kernel
theorem dL_law_633 : decode cL_law 633 = .ok (.ifCond .ne 15, 3) := by decide +kernel
theorem dL_law_636 : decode cL_law 636 = .ok (.aload_n 3, 1) := by decide +kernel
theorem dL_law_637 : decode cL_law 637 = .ok (.iconst 0, 1) := by decide +kernel
theorem dL_law_638 : decode cL_law 638 = .ok (.laload, 1) := by decide +kernel
theorem dL_law_639 : decode cL_law 639 = .ok (.iload 6, 2) := by decide +kernel
theorem dL_law_641 : decode cL_law 641 = .ok (.i2l, 1) := by decide +kernel
theorem dL_law_642 : decode cL_law 642 = .ok (.lcmp, 1) := by decide +kernel
theorem dL_law_643 : decode cL_law 643 = .ok (.ifCond .eq 5, 3) := by decide +kernel
theorem dL_law_646 : decode cL_law 646 = .ok (.iconst 0, 1) := by decide +kernel
theorem dL_law_647 : decode cL_law 647 = .ok (.ireturn, 1) := by decide +kernel
theorem dL_law_648 : decode cL_law 648 = .ok (.goto 1688, 3) := by decide +kernel
theorem dL_law_651 : decode cL_law 651 = .ok (.aload_n 1, 1) := by decide +kernel
theorem dL_law_652 : decode cL_law 652 = .ok (.invokevirtual 134, 3) := by decide +kernel
theorem dL_law_655 : decode cL_law 655 = .ok (.aload_n 2, 1) := by decide +kernel
theorem dL_law_656 : decode cL_law 656 = .ok (.invokevirtual 137, 3) := by decide +kernel
theorem dL_law_659 : decode cL_law 659 = .ok (.if_icmp .eq 1677, 3) := by decide +kernel
theorem dL_law_662 : decode cL_law 662 = .ok (.iconst 0, 1) := by decide +kernel
theorem dL_law_663 : decode cL_law 663 = .ok (.ireturn, 1) := by decide +kernel
theorem dL_law_664 : decode cL_law 664 = .ok (.aload_n 1, 1) := by decide +kernel
theorem dL_law_665 : decode cL_law 665 = .ok (.aload_n 0, 1) := by decide +kernel
theorem dL_law_666 : decode cL_law 666 = .ok (.iload 4, 2) := by decide +kernel
theorem dL_law_668 : decode cL_law 668 = .ok (.iconst 1, 1) := by decide +kernel
theorem dL_law_669 : decode cL_law 669 = .ok (.iadd, 1) := by decide +kernel
theorem dL_law_670 : decode cL_law 670 = .ok (.iaload, 1) := by decide +kernel
theorem dL_law_671 : decode cL_law 671 = .ok (.aload_n 3, 1) := by decide +kernel
theorem dL_law_672 : decode cL_law 672 = .ok (.invokestatic 138, 3) := by decide +kernel
theorem dL_law_675 : decode cL_law 675 = .ok (.istore 5, 2) := by decide +kernel
theorem dL_law_677 : decode cL_law 677 = .ok (.aload_n 2, 1) := by decide +kernel
theorem dL_law_678 : decode cL_law 678 = .ok (.aload_n 0, 1) := by decide +kernel
theorem dL_law_679 : decode cL_law 679 = .ok (.iload 4, 2) := by decide +kernel
theorem dL_law_681 : decode cL_law 681 = .ok (.iconst 1, 1) := by decide +kernel
theorem dL_law_682 : decode cL_law 682 = .ok (.iadd, 1) := by decide +kernel
theorem dL_law_683 : decode cL_law 683 = .ok (.iaload, 1) := by decide +kernel
theorem dL_law_684 : decode cL_law 684 = .ok (.invokevirtual 140, 3) := by decide +kernel
theorem dL_law_687 : decode cL_law 687 = .ok (.istore 6, 2) := by decide +kernel
theorem dL_law_689 : decode cL_law 689 = .ok (.aload_n 2, 1) := by decide +kernel
theorem dL_law_690 : decode cL_law 690 = .ok (.invokevirtual 105, 3) := by decide +kernel
theorem dL_law_693 : decode cL_law 693 = .ok (.iload 5, 2) := by decide +kernel
theorem dL_law_695 : decode cL_law 695 = .ok (.if_icmp .eq 5, 3) := by decide +kernel
theorem dL_law_698 : decode cL_law 698 = .ok (.iconst 0, 1) := by decide +kernel
theorem dL_law_699 : decode cL_law 699 = .ok (.ireturn, 1) := by decide +kernel
theorem dL_law_700 : decode cL_law 700 = .ok (.iload 5, 2) := by decide +kernel
theorem dL_law_702 : decode cL_law 702 = .ok (.ifCond .ne 15, 3) := by decide +kernel
theorem dL_law_705 : decode cL_law 705 = .ok (.aload_n 3, 1) := by decide +kernel
theorem dL_law_706 : decode cL_law 706 = .ok (.iconst 0, 1) := by decide +kernel
theorem dL_law_707 : decode cL_law 707 = .ok (.laload, 1) := by decide +kernel
theorem dL_law_708 : decode cL_law 708 = .ok (.iload 6, 2) := by decide +kernel
theorem dL_law_710 : decode cL_law 710 = .ok (.i2l, 1) := by decide +kernel
theorem dL_law_711 : decode cL_law 711 = .ok (.lcmp, 1) := by decide +kernel
theorem dL_law_712 : decode cL_law 712 = .ok (.ifCond .eq 5, 3) := by decide +kernel
theorem dL_law_715 : decode cL_law 715 = .ok (.iconst 0, 1) := by decide +kernel
theorem dL_law_716 : decode cL_law 716 = .ok (.ireturn, 1) := by decide +kernel
theorem dL_law_717 : decode cL_law 717 = .ok (.goto 1619, 3) := by decide +kernel
theorem dL_law_720 : decode cL_law 720 = .ok (.aload_n 1, 1) := by decide +kernel
theorem dL_law_721 : decode cL_law 721 = .ok (.invokevirtual 141, 3) := by decide +kernel
theorem dL_law_724 : decode cL_law 724 = .ok (.aload_n 2, 1) := by decide +kernel
theorem dL_law_725 : decode cL_law 725 = .ok (.invokevirtual 144, 3) := by decide +kernel
theorem dL_law_728 : decode cL_law 728 = .ok (.if_icmp .eq 1608, 3) := by decide +kernel
theorem dL_law_731 : decode cL_law 731 = .ok (.iconst 0, 1) := by decide +kernel
theorem dL_law_732 : decode cL_law 732 = .ok (.ireturn, 1) := by decide +kernel
theorem dL_law_733 : decode cL_law 733 = .ok (.aload_n 1, 1) := by decide +kernel
theorem dL_law_734 : decode cL_law 734 = .ok (.invokevirtual 145, 3) := by decide +kernel
theorem dL_law_737 : decode cL_law 737 = .ok (.aload_n 2, 1) := by decide +kernel
theorem dL_law_738 : decode cL_law 738 = .ok (.invokevirtual 149, 3) := by decide +kernel
theorem dL_law_741 : decode cL_law 741 = .ok (.if_icmp .eq 1595, 3) := by decide +kernel
theorem dL_law_744 : decode cL_law 744 = .ok (.iconst 0, 1) := by decide +kernel
theorem dL_law_745 : decode cL_law 745 = .ok (.ireturn, 1) := by decide +kernel
theorem dL_law_746 : decode cL_law 746 = .ok (.aload_n 1, 1) := by decide +kernel
theorem dL_law_747 : decode cL_law 747 = .ok (.aload_n 0, 1) := by decide +kernel
theorem dL_law_748 : decode cL_law 748 = .ok (.iload 4, 2) := by decide +kernel
theorem dL_law_750 : decode cL_law 750 = .ok (.iconst 1, 1) := by decide +kernel
theorem dL_law_751 : decode cL_law 751 = .ok (.iadd, 1) := by decide +kernel
theorem dL_law_752 : decode cL_law 752 = .ok (.iaload, 1) := by decide +kernel
theorem dL_law_753 : decode cL_law 753 = .ok (.aload_n 0, 1) := by decide +kernel
theorem dL_law_754 : decode cL_law 754 = .ok (.iload 4, 2) := by decide +kernel
theorem dL_law_756 : decode cL_law 756 = .ok (.iconst 2, 1) := by decide +kernel
theorem dL_law_757 : decode cL_law 757 = .ok (.iadd, 1) := by decide +kernel
theorem dL_law_758 : decode cL_law 758 = .ok (.iaload, 1) := by decide +kernel
theorem dL_law_759 : decode cL_law 759 = .ok (.aload_n 3, 1) := by decide +kernel
theorem dL_law_760 : decode cL_law 760 = .ok (.invokestatic 150, 3) := by decide +kernel
theorem dL_law_763 : decode cL_law 763 = .ok (.istore 5, 2) := by decide +kernel
theorem dL_law_765 : decode cL_law 765 = .ok (.aload_n 2, 1) := by decide +kernel
theorem dL_law_766 : decode cL_law 766 = .ok (.aload_n 0, 1) := by decide +kernel
theorem dL_law_767 : decode cL_law 767 = .ok (.iload 4, 2) := by decide +kernel
theorem dL_law_769 : decode cL_law 769 = .ok (.iconst 1, 1) := by decide +kernel
theorem dL_law_770 : decode cL_law 770 = .ok (.iadd, 1) := by decide +kernel
theorem dL_law_771 : decode cL_law 771 = .ok (.iaload, 1) := by decide +kernel
theorem dL_law_772 : decode cL_law 772 = .ok (.aload_n 0, 1) := by decide +kernel
theorem dL_law_773 : decode cL_law 773 = .ok (.iload 4, 2) := by decide +kernel
theorem dL_law_775 : decode cL_law 775 = .ok (.iconst 2, 1) := by decide +kernel
theorem dL_law_776 : decode cL_law 776 = .ok (.iadd, 1) := by decide +kernel
theorem dL_law_777 : decode cL_law 777 = .ok (.iaload, 1) := by decide +kernel
theorem dL_law_778 : decode cL_law 778 = .ok (.invokevirtual 153, 3) := by decide +kernel
theorem dL_law_781 : decode cL_law 781 = .ok (.istore 6, 2) := by decide +kernel
theorem dL_law_783 : decode cL_law 783 = .ok (.aload_n 2, 1) := by decide +kernel
theorem dL_law_784 : decode cL_law 784 = .ok (.invokevirtual 105, 3) := by decide +kernel
theorem dL_law_787 : decode cL_law 787 = .ok (.iload 5, 2) := by decide +kernel
theorem dL_law_789 : decode cL_law 789 = .ok (.if_icmp .eq 5, 3) := by decide +kernel
theorem dL_law_792 : decode cL_law 792 = .ok (.iconst 0, 1) := by decide +kernel
theorem dL_law_793 : decode cL_law 793 = .ok (.ireturn, 1) := by decide +kernel
theorem dL_law_794 : decode cL_law 794 = .ok (.iload 5, 2) := by decide +kernel
theorem dL_law_796 : decode cL_law 796 = .ok (.ifCond .ne 15, 3) := by decide +kernel
theorem dL_law_799 : decode cL_law 799 = .ok (.aload_n 3, 1) := by decide +kernel
theorem dL_law_800 : decode cL_law 800 = .ok (.iconst 0, 1) := by decide +kernel
theorem dL_law_801 : decode cL_law 801 = .ok (.laload, 1) := by decide +kernel
theorem dL_law_802 : decode cL_law 802 = .ok (.iload 6, 2) := by decide +kernel
theorem dL_law_804 : decode cL_law 804 = .ok (.i2l, 1) := by decide +kernel
theorem dL_law_805 : decode cL_law 805 = .ok (.lcmp, 1) := by decide +kernel
theorem dL_law_806 : decode cL_law 806 = .ok (.ifCond .eq 5, 3) := by decide +kernel
theorem dL_law_809 : decode cL_law 809 = .ok (.iconst 0, 1) := by decide +kernel
theorem dL_law_810 : decode cL_law 810 = .ok (.ireturn, 1) := by decide +kernel
theorem dL_law_811 : decode cL_law 811 = .ok (.goto 1525, 3) := by decide +kernel
theorem dL_law_814 : decode cL_law 814 = .ok (.aload_n 1, 1) := by decide +kernel
theorem dL_law_815 : decode cL_law 815 = .ok (.aload_n 0, 1) := by decide +kernel
theorem dL_law_816 : decode cL_law 816 = .ok (.iload 4, 2) := by decide +kernel
theorem dL_law_818 : decode cL_law 818 = .ok (.iconst 1, 1) := by decide +kernel
theorem dL_law_819 : decode cL_law 819 = .ok (.iadd, 1) := by decide +kernel
theorem dL_law_820 : decode cL_law 820 = .ok (.iaload, 1) := by decide +kernel
theorem dL_law_821 : decode cL_law 821 = .ok (.aload_n 0, 1) := by decide +kernel
theorem dL_law_822 : decode cL_law 822 = .ok (.iload 4, 2) := by decide +kernel
theorem dL_law_824 : decode cL_law 824 = .ok (.iconst 2, 1) := by decide +kernel
theorem dL_law_825 : decode cL_law 825 = .ok (.iadd, 1) := by decide +kernel
theorem dL_law_826 : decode cL_law 826 = .ok (.iaload, 1) := by decide +kernel
theorem dL_law_827 : decode cL_law 827 = .ok (.aload_n 3, 1) := by decide +kernel
theorem dL_law_828 : decode cL_law 828 = .ok (.invokestatic 154, 3) := by decide +kernel
theorem dL_law_831 : decode cL_law 831 = .ok (.istore 5, 2) := by decide +kernel
theorem dL_law_833 : decode cL_law 833 = .ok (.aload_n 2, 1) := by decide +kernel
theorem dL_law_834 : decode cL_law 834 = .ok (.aload_n 0, 1) := by decide +kernel
theorem dL_law_835 : decode cL_law 835 = .ok (.iload 4, 2) := by decide +kernel
theorem dL_law_837 : decode cL_law 837 = .ok (.iconst 1, 1) := by decide +kernel
theorem dL_law_838 : decode cL_law 838 = .ok (.iadd, 1) := by decide +kernel
theorem dL_law_839 : decode cL_law 839 = .ok (.iaload, 1) := by decide +kernel
theorem dL_law_840 : decode cL_law 840 = .ok (.aload_n 0, 1) := by decide +kernel
theorem dL_law_841 : decode cL_law 841 = .ok (.iload 4, 2) := by decide +kernel
theorem dL_law_843 : decode cL_law 843 = .ok (.iconst 2, 1) := by decide +kernel
theorem dL_law_844 : decode cL_law 844 = .ok (.iadd, 1) := by decide +kernel
theorem dL_law_845 : decode cL_law 845 = .ok (.iaload, 1) := by decide +kernel
theorem dL_law_846 : decode cL_law 846 = .ok (.invokevirtual 156, 3) := by decide +kernel
theorem dL_law_849 : decode cL_law 849 = .ok (.istore 6, 2) := by decide +kernel
theorem dL_law_851 : decode cL_law 851 = .ok (.aload_n 2, 1) := by decide +kernel
theorem dL_law_852 : decode cL_law 852 = .ok (.invokevirtual 105, 3) := by decide +kernel
theorem dL_law_855 : decode cL_law 855 = .ok (.iload 5, 2) := by decide +kernel
theorem dL_law_857 : decode cL_law 857 = .ok (.if_icmp .eq 5, 3) := by decide +kernel
theorem dL_law_860 : decode cL_law 860 = .ok (.iconst 0, 1) := by decide +kernel
theorem dL_law_861 : decode cL_law 861 = .ok (.ireturn, 1) := by decide +kernel
theorem dL_law_862 : decode cL_law 862 = .ok (.iload 5, 2) := by decide +kernel
theorem dL_law_864 : decode cL_law 864 = .ok (.ifCond .ne 15, 3) := by decide +kernel
theorem dL_law_867 : decode cL_law 867 = .ok (.aload_n 3, 1) := by decide +kernel
theorem dL_law_868 : decode cL_law 868 = .ok (.iconst 0, 1) := by decide +kernel
theorem dL_law_869 : decode cL_law 869 = .ok (.laload, 1) := by decide +kernel
theorem dL_law_870 : decode cL_law 870 = .ok (.iload 6, 2) := by decide +kernel
theorem dL_law_872 : decode cL_law 872 = .ok (.i2l, 1) := by decide +kernel
theorem dL_law_873 : decode cL_law 873 = .ok (.lcmp, 1) := by decide +kernel
theorem dL_law_874 : decode cL_law 874 = .ok (.ifCond .eq 5, 3) := by decide +kernel
theorem dL_law_877 : decode cL_law 877 = .ok (.iconst 0, 1) := by decide +kernel
theorem dL_law_878 : decode cL_law 878 = .ok (.ireturn, 1) := by decide +kernel
theorem dL_law_879 : decode cL_law 879 = .ok (.goto 1457, 3) := by decide +kernel
theorem dL_law_882 : decode cL_law 882 = .ok (.aload_n 1, 1) := by decide +kernel
theorem dL_law_883 : decode cL_law 883 = .ok (.invokevirtual 157, 3) := by decide +kernel
theorem dL_law_886 : decode cL_law 886 = .ok (.aload_n 2, 1) := by decide +kernel
theorem dL_law_887 : decode cL_law 887 = .ok (.invokevirtual 160, 3) := by decide +kernel
theorem dL_law_890 : decode cL_law 890 = .ok (.if_icmp .eq 1446, 3) := by decide +kernel
theorem dL_law_893 : decode cL_law 893 = .ok (.iconst 0, 1) := by decide +kernel
theorem dL_law_894 : decode cL_law 894 = .ok (.ireturn, 1) := by decide +kernel
theorem dL_law_895 : decode cL_law 895 = .ok (.aload_n 1, 1) := by decide +kernel
theorem dL_law_896 : decode cL_law 896 = .ok (.aload_n 0, 1) := by decide +kernel
theorem dL_law_897 : decode cL_law 897 = .ok (.iload 4, 2) := by decide +kernel
theorem dL_law_899 : decode cL_law 899 = .ok (.iconst 1, 1) := by decide +kernel
theorem dL_law_900 : decode cL_law 900 = .ok (.iadd, 1) := by decide +kernel
theorem dL_law_901 : decode cL_law 901 = .ok (.iaload, 1) := by decide +kernel
theorem dL_law_902 : decode cL_law 902 = .ok (.aload_n 3, 1) := by decide +kernel
theorem dL_law_903 : decode cL_law 903 = .ok (.invokestatic 161, 3) := by decide +kernel
theorem dL_law_906 : decode cL_law 906 = .ok (.istore 5, 2) := by decide +kernel
theorem dL_law_908 : decode cL_law 908 = .ok (.aload_n 2, 1) := by decide +kernel
theorem dL_law_909 : decode cL_law 909 = .ok (.aload_n 0, 1) := by decide +kernel
theorem dL_law_910 : decode cL_law 910 = .ok (.iload 4, 2) := by decide +kernel
theorem dL_law_912 : decode cL_law 912 = .ok (.iconst 1, 1) := by decide +kernel
theorem dL_law_913 : decode cL_law 913 = .ok (.iadd, 1) := by decide +kernel
theorem dL_law_914 : decode cL_law 914 = .ok (.iaload, 1) := by decide +kernel
theorem dL_law_915 : decode cL_law 915 = .ok (.invokevirtual 163, 3) := by decide +kernel
theorem dL_law_918 : decode cL_law 918 = .ok (.istore 6, 2) := by decide +kernel
theorem dL_law_920 : decode cL_law 920 = .ok (.aload_n 2, 1) := by decide +kernel
theorem dL_law_921 : decode cL_law 921 = .ok (.invokevirtual 105, 3) := by decide +kernel
theorem dL_law_924 : decode cL_law 924 = .ok (.iload 5, 2) := by decide +kernel
theorem dL_law_926 : decode cL_law 926 = .ok (.if_icmp .eq 5, 3) := by decide +kernel
theorem dL_law_929 : decode cL_law 929 = .ok (.iconst 0, 1) := by decide +kernel
theorem dL_law_930 : decode cL_law 930 = .ok (.ireturn, 1) := by decide +kernel
theorem dL_law_931 : decode cL_law 931 = .ok (.iload 5, 2) := by decide +kernel
theorem dL_law_933 : decode cL_law 933 = .ok (.ifCond .ne 15, 3) := by decide +kernel
theorem dL_law_936 : decode cL_law 936 = .ok (.aload_n 3, 1) := by decide +kernel
theorem dL_law_937 : decode cL_law 937 = .ok (.iconst 0, 1) := by decide +kernel
theorem dL_law_938 : decode cL_law 938 = .ok (.laload, 1) := by decide +kernel
theorem dL_law_939 : decode cL_law 939 = .ok (.iload 6, 2) := by decide +kernel
theorem dL_law_941 : decode cL_law 941 = .ok (.i2l, 1) := by decide +kernel
theorem dL_law_942 : decode cL_law 942 = .ok (.lcmp, 1) := by decide +kernel
theorem dL_law_943 : decode cL_law 943 = .ok (.ifCond .eq 5, 3) := by decide +kernel
theorem dL_law_946 : decode cL_law 946 = .ok (.iconst 0, 1) := by decide +kernel
theorem dL_law_947 : decode cL_law 947 = .ok (.ireturn, 1) := by decide +kernel
theorem dL_law_948 : decode cL_law 948 = .ok (.goto 1388, 3) := by decide +kernel
theorem dL_law_951 : decode cL_law 951 = .ok (.aload_n 1, 1) := by decide +kernel
theorem dL_law_952 : decode cL_law 952 = .ok (.invokevirtual 164, 3) := by decide +kernel
theorem dL_law_955 : decode cL_law 955 = .ok (.aload_n 2, 1) := by decide +kernel
theorem dL_law_956 : decode cL_law 956 = .ok (.invokevirtual 167, 3) := by decide +kernel
theorem dL_law_959 : decode cL_law 959 = .ok (.if_icmp .eq 1377, 3) := by decide +kernel
theorem dL_law_962 : decode cL_law 962 = .ok (.iconst 0, 1) := by decide +kernel
theorem dL_law_963 : decode cL_law 963 = .ok (.ireturn, 1) := by decide +kernel
theorem dL_law_964 : decode cL_law 964 = .ok (.aload_n 1, 1) := by decide +kernel
theorem dL_law_965 : decode cL_law 965 = .ok (.invokevirtual 168, 3) := by decide +kernel
theorem dL_law_968 : decode cL_law 968 = .ok (.aload_n 2, 1) := by decide +kernel
theorem dL_law_969 : decode cL_law 969 = .ok (.invokevirtual 171, 3) := by decide +kernel
theorem dL_law_972 : decode cL_law 972 = .ok (.if_icmp .eq 1364, 3) := by decide +kernel
theorem dL_law_975 : decode cL_law 975 = .ok (.iconst 0, 1) := by decide +kernel
theorem dL_law_976 : decode cL_law 976 = .ok (.ireturn, 1) := by decide +kernel
theorem dL_law_977 : decode cL_law 977 = .ok (.aload_n 1, 1) := by decide +kernel
theorem dL_law_978 : decode cL_law 978 = .ok (.aload_n 0, 1) := by decide +kernel
theorem dL_law_979 : decode cL_law 979 = .ok (.iload 4, 2) := by decide +kernel
theorem dL_law_981 : decode cL_law 981 = .ok (.iconst 1, 1) := by decide +kernel
theorem dL_law_982 : decode cL_law 982 = .ok (.iadd, 1) := by decide +kernel
theorem dL_law_983 : decode cL_law 983 = .ok (.iaload, 1) := by decide +kernel
theorem dL_law_984 : decode cL_law 984 = .ok (.aload_n 3, 1) := by decide +kernel
theorem dL_law_985 : decode cL_law 985 = .ok (.invokestatic 172, 3) := by decide +kernel
theorem dL_law_988 : decode cL_law 988 = .ok (.istore 5, 2) := by decide +kernel
theorem dL_law_990 : decode cL_law 990 = .ok (.aload_n 2, 1) := by decide +kernel
theorem dL_law_991 : decode cL_law 991 = .ok (.aload_n 0, 1) := by decide +kernel
theorem dL_law_992 : decode cL_law 992 = .ok (.iload 4, 2) := by decide +kernel
theorem dL_law_994 : decode cL_law 994 = .ok (.iconst 1, 1) := by decide +kernel
theorem dL_law_995 : decode cL_law 995 = .ok (.iadd, 1) := by decide +kernel
theorem dL_law_996 : decode cL_law 996 = .ok (.iaload, 1) := by decide +kernel
theorem dL_law_997 : decode cL_law 997 = .ok (.invokevirtual 174, 3) := by decide +kernel
theorem dL_law_1000 : decode cL_law 1000 = .ok (.istore 6, 2) := by decide +kernel
theorem dL_law_1002 : decode cL_law 1002 = .ok (.aload_n 2, 1) := by decide +kernel
theorem dL_law_1003 : decode cL_law 1003 = .ok (.invokevirtual 105, 3) := by decide +kernel
theorem dL_law_1006 : decode cL_law 1006 = .ok (.iload 5, 2) := by decide +kernel
theorem dL_law_1008 : decode cL_law 1008 = .ok (.if_icmp .eq 5, 3) := by decide +kernel
theorem dL_law_1011 : decode cL_law 1011 = .ok (.iconst 0, 1) := by decide +kernel
theorem dL_law_1012 : decode cL_law 1012 = .ok (.ireturn, 1) := by decide +kernel
theorem dL_law_1013 : decode cL_law 1013 = .ok (.iload 5, 2) := by decide +kernel
theorem dL_law_1015 : decode cL_law 1015 = .ok (.ifCond .ne 15, 3) := by decide +kernel
theorem dL_law_1018 : decode cL_law 1018 = .ok (.aload_n 3, 1) := by decide +kernel
theorem dL_law_1019 : decode cL_law 1019 = .ok (.iconst 0, 1) := by decide +kernel
theorem dL_law_1020 : decode cL_law 1020 = .ok (.laload, 1) := by decide +kernel
theorem dL_law_1021 : decode cL_law 1021 = .ok (.iload 6, 2) := by decide +kernel
theorem dL_law_1023 : decode cL_law 1023 = .ok (.i2l, 1) := by decide +kernel
theorem dL_law_1024 : decode cL_law 1024 = .ok (.lcmp, 1) := by decide +kernel
theorem dL_law_1025 : decode cL_law 1025 = .ok (.ifCond .eq 5, 3) := by decide +kernel
theorem dL_law_1028 : decode cL_law 1028 = .ok (.iconst 0, 1) := by decide +kernel
theorem dL_law_1029 : decode cL_law 1029 = .ok (.ireturn, 1) := by decide +kernel
theorem dL_law_1030 : decode cL_law 1030 = .ok (.goto 1306, 3) := by decide +kernel
theorem dL_law_1033 : decode cL_law 1033 = .ok (.aload_n 1, 1) := by decide +kernel
theorem dL_law_1034 : decode cL_law 1034 = .ok (.invokevirtual 175, 3) := by decide +kernel
theorem dL_law_1037 : decode cL_law 1037 = .ok (.aload_n 2, 1) := by decide +kernel
theorem dL_law_1038 : decode cL_law 1038 = .ok (.invokevirtual 178, 3) := by decide +kernel
theorem dL_law_1041 : decode cL_law 1041 = .ok (.if_icmp .eq 1295, 3) := by decide +kernel
theorem dL_law_1044 : decode cL_law 1044 = .ok (.iconst 0, 1) := by decide +kernel
theorem dL_law_1045 : decode cL_law 1045 = .ok (.ireturn, 1) := by decide +kernel
theorem dL_law_1046 : decode cL_law 1046 = .ok (.aload_n 1, 1) := by decide +kernel
theorem dL_law_1047 : decode cL_law 1047 = .ok (.invokevirtual 179, 3) := by decide +kernel
theorem dL_law_1050 : decode cL_law 1050 = .ok (.aload_n 2, 1) := by decide +kernel
theorem dL_law_1051 : decode cL_law 1051 = .ok (.invokevirtual 182, 3) := by decide +kernel
theorem dL_law_1054 : decode cL_law 1054 = .ok (.if_icmp .eq 1282, 3) := by decide +kernel
theorem dL_law_1057 : decode cL_law 1057 = .ok (.iconst 0, 1) := by decide +kernel
theorem dL_law_1058 : decode cL_law 1058 = .ok (.ireturn, 1) := by decide +kernel
theorem dL_law_1059 : decode cL_law 1059 = .ok (.aload_n 1, 1) := by decide +kernel
theorem dL_law_1060 : decode cL_law 1060 = .ok (.aload_n 0, 1) := by decide +kernel
theorem dL_law_1061 : decode cL_law 1061 = .ok (.iload 4, 2) := by decide +kernel
theorem dL_law_1063 : decode cL_law 1063 = .ok (.iconst 1, 1) := by decide +kernel
theorem dL_law_1064 : decode cL_law 1064 = .ok (.iadd, 1) := by decide +kernel
theorem dL_law_1065 : decode cL_law 1065 = .ok (.iaload, 1) := by decide +kernel
theorem dL_law_1066 : decode cL_law 1066 = .ok (.aload_n 0, 1) := by decide +kernel
theorem dL_law_1067 : decode cL_law 1067 = .ok (.iload 4, 2) := by decide +kernel
theorem dL_law_1069 : decode cL_law 1069 = .ok (.iconst 2, 1) := by decide +kernel
theorem dL_law_1070 : decode cL_law 1070 = .ok (.iadd, 1) := by decide +kernel
theorem dL_law_1071 : decode cL_law 1071 = .ok (.iaload, 1) := by decide +kernel
theorem dL_law_1072 : decode cL_law 1072 = .ok (.aload_n 3, 1) := by decide +kernel
theorem dL_law_1073 : decode cL_law 1073 = .ok (.invokestatic 183, 3) := by decide +kernel
theorem dL_law_1076 : decode cL_law 1076 = .ok (.istore 5, 2) := by decide +kernel
theorem dL_law_1078 : decode cL_law 1078 = .ok (.aload_n 2, 1) := by decide +kernel
theorem dL_law_1079 : decode cL_law 1079 = .ok (.aload_n 0, 1) := by decide +kernel
theorem dL_law_1080 : decode cL_law 1080 = .ok (.iload 4, 2) := by decide +kernel
theorem dL_law_1082 : decode cL_law 1082 = .ok (.iconst 1, 1) := by decide +kernel
theorem dL_law_1083 : decode cL_law 1083 = .ok (.iadd, 1) := by decide +kernel
theorem dL_law_1084 : decode cL_law 1084 = .ok (.iaload, 1) := by decide +kernel
theorem dL_law_1085 : decode cL_law 1085 = .ok (.aload_n 0, 1) := by decide +kernel
theorem dL_law_1086 : decode cL_law 1086 = .ok (.iload 4, 2) := by decide +kernel
theorem dL_law_1088 : decode cL_law 1088 = .ok (.iconst 2, 1) := by decide +kernel
theorem dL_law_1089 : decode cL_law 1089 = .ok (.iadd, 1) := by decide +kernel
theorem dL_law_1090 : decode cL_law 1090 = .ok (.iaload, 1) := by decide +kernel
theorem dL_law_1091 : decode cL_law 1091 = .ok (.invokevirtual 185, 3) := by decide +kernel
theorem dL_law_1094 : decode cL_law 1094 = .ok (.istore 6, 2) := by decide +kernel
theorem dL_law_1096 : decode cL_law 1096 = .ok (.aload_n 2, 1) := by decide +kernel
theorem dL_law_1097 : decode cL_law 1097 = .ok (.invokevirtual 105, 3) := by decide +kernel
theorem dL_law_1100 : decode cL_law 1100 = .ok (.iload 5, 2) := by decide +kernel
theorem dL_law_1102 : decode cL_law 1102 = .ok (.if_icmp .eq 5, 3) := by decide +kernel
theorem dL_law_1105 : decode cL_law 1105 = .ok (.iconst 0, 1) := by decide +kernel
theorem dL_law_1106 : decode cL_law 1106 = .ok (.ireturn, 1) := by decide +kernel
theorem dL_law_1107 : decode cL_law 1107 = .ok (.iload 5, 2) := by decide +kernel
theorem dL_law_1109 : decode cL_law 1109 = .ok (.ifCond .ne 15, 3) := by decide +kernel
theorem dL_law_1112 : decode cL_law 1112 = .ok (.aload_n 3, 1) := by decide +kernel
theorem dL_law_1113 : decode cL_law 1113 = .ok (.iconst 0, 1) := by decide +kernel
theorem dL_law_1114 : decode cL_law 1114 = .ok (.laload, 1) := by decide +kernel
theorem dL_law_1115 : decode cL_law 1115 = .ok (.iload 6, 2) := by decide +kernel
theorem dL_law_1117 : decode cL_law 1117 = .ok (.i2l, 1) := by decide +kernel
theorem dL_law_1118 : decode cL_law 1118 = .ok (.lcmp, 1) := by decide +kernel
theorem dL_law_1119 : decode cL_law 1119 = .ok (.ifCond .eq 5, 3) := by decide +kernel
theorem dL_law_1122 : decode cL_law 1122 = .ok (.iconst 0, 1) := by decide +kernel
theorem dL_law_1123 : decode cL_law 1123 = .ok (.ireturn, 1) := by decide +kernel
theorem dL_law_1124 : decode cL_law 1124 = .ok (.goto 1212, 3) := by decide +kernel
theorem dL_law_1127 : decode cL_law 1127 = .ok (.aload_n 1, 1) := by decide +kernel
theorem dL_law_1128 : decode cL_law 1128 = .ok (.aload_n 0, 1) := by decide +kernel
theorem dL_law_1129 : decode cL_law 1129 = .ok (.iload 4, 2) := by decide +kernel
theorem dL_law_1131 : decode cL_law 1131 = .ok (.iconst 1, 1) := by decide +kernel
theorem dL_law_1132 : decode cL_law 1132 = .ok (.iadd, 1) := by decide +kernel
theorem dL_law_1133 : decode cL_law 1133 = .ok (.iaload, 1) := by decide +kernel
theorem dL_law_1134 : decode cL_law 1134 = .ok (.invokevirtual 186, 3) := by decide +kernel
theorem dL_law_1137 : decode cL_law 1137 = .ok (.aload_n 2, 1) := by decide +kernel
theorem dL_law_1138 : decode cL_law 1138 = .ok (.aload_n 0, 1) := by decide +kernel
theorem dL_law_1139 : decode cL_law 1139 = .ok (.iload 4, 2) := by decide +kernel
theorem dL_law_1141 : decode cL_law 1141 = .ok (.iconst 1, 1) := by decide +kernel
theorem dL_law_1142 : decode cL_law 1142 = .ok (.iadd, 1) := by decide +kernel
theorem dL_law_1143 : decode cL_law 1143 = .ok (.iaload, 1) := by decide +kernel
theorem dL_law_1144 : decode cL_law 1144 = .ok (.invokevirtual 189, 3) := by decide +kernel
theorem dL_law_1147 : decode cL_law 1147 = .ok (.if_icmp .eq 1189, 3) := by decide +kernel
theorem dL_law_1150 : decode cL_law 1150 = .ok (.iconst 0, 1) := by decide +kernel
theorem dL_law_1151 : decode cL_law 1151 = .ok (.ireturn, 1) := by decide +kernel
theorem dL_law_1152 : decode cL_law 1152 = .ok (.aload_n 1, 1) := by decide +kernel
theorem dL_law_1153 : decode cL_law 1153 = .ok (.aload_n 0, 1) := by decide +kernel
theorem dL_law_1154 : decode cL_law 1154 = .ok (.iload 4, 2) := by decide +kernel
theorem dL_law_1156 : decode cL_law 1156 = .ok (.iconst 1, 1) := by decide +kernel
theorem dL_law_1157 : decode cL_law 1157 = .ok (.iadd, 1) := by decide +kernel
theorem dL_law_1158 : decode cL_law 1158 = .ok (.iaload, 1) := by decide +kernel
theorem dL_law_1159 : decode cL_law 1159 = .ok (.aload_n 0, 1) := by decide +kernel
theorem dL_law_1160 : decode cL_law 1160 = .ok (.iload 4, 2) := by decide +kernel
theorem dL_law_1162 : decode cL_law 1162 = .ok (.iconst 2, 1) := by decide +kernel
theorem dL_law_1163 : decode cL_law 1163 = .ok (.iadd, 1) := by decide +kernel
theorem dL_law_1164 : decode cL_law 1164 = .ok (.iaload, 1) := by decide +kernel
theorem dL_law_1165 : decode cL_law 1165 = .ok (.aload_n 0, 1) := by decide +kernel
theorem dL_law_1166 : decode cL_law 1166 = .ok (.iload 4, 2) := by decide +kernel
theorem dL_law_1168 : decode cL_law 1168 = .ok (.iconst 3, 1) := by decide +kernel
theorem dL_law_1169 : decode cL_law 1169 = .ok (.iadd, 1) := by decide +kernel
theorem dL_law_1170 : decode cL_law 1170 = .ok (.iaload, 1) := by decide +kernel
theorem dL_law_1171 : decode cL_law 1171 = .ok (.ifCond .eq 7, 3) := by decide +kernel
theorem dL_law_1174 : decode cL_law 1174 = .ok (.iconst 1, 1) := by decide +kernel
theorem dL_law_1175 : decode cL_law 1175 = .ok (.goto 4, 3) := by decide +kernel
theorem dL_law_1178 : decode cL_law 1178 = .ok (.iconst 0, 1) := by decide +kernel
theorem dL_law_1179 : decode cL_law 1179 = .ok (.aload_n 0, 1) := by decide +kernel
theorem dL_law_1180 : decode cL_law 1180 = .ok (.iload 4, 2) := by decide +kernel
theorem dL_law_1182 : decode cL_law 1182 = .ok (.iconst 4, 1) := by decide +kernel
theorem dL_law_1183 : decode cL_law 1183 = .ok (.iadd, 1) := by decide +kernel
theorem dL_law_1184 : decode cL_law 1184 = .ok (.iaload, 1) := by decide +kernel
theorem dL_law_1185 : decode cL_law 1185 = .ok (.ifCond .eq 7, 3) := by decide +kernel
theorem dL_law_1188 : decode cL_law 1188 = .ok (.iconst 1, 1) := by decide +kernel
theorem dL_law_1189 : decode cL_law 1189 = .ok (.goto 4, 3) := by decide +kernel
theorem dL_law_1192 : decode cL_law 1192 = .ok (.iconst 0, 1) := by decide +kernel
theorem dL_law_1193 : decode cL_law 1193 = .ok (.aload_n 3, 1) := by decide +kernel
theorem dL_law_1194 : decode cL_law 1194 = .ok (.invokestatic 190, 3) := by decide +kernel
theorem dL_law_1197 : decode cL_law 1197 = .ok (.istore 5, 2) := by decide +kernel
theorem dL_law_1199 : decode cL_law 1199 = .ok (.aload_n 2, 1) := by decide +kernel
theorem dL_law_1200 : decode cL_law 1200 = .ok (.aload_n 0, 1) := by decide +kernel
theorem dL_law_1201 : decode cL_law 1201 = .ok (.iload 4, 2) := by decide +kernel
theorem dL_law_1203 : decode cL_law 1203 = .ok (.iconst 1, 1) := by decide +kernel
theorem dL_law_1204 : decode cL_law 1204 = .ok (.iadd, 1) := by decide +kernel
theorem dL_law_1205 : decode cL_law 1205 = .ok (.iaload, 1) := by decide +kernel
theorem dL_law_1206 : decode cL_law 1206 = .ok (.aload_n 0, 1) := by decide +kernel
theorem dL_law_1207 : decode cL_law 1207 = .ok (.iload 4, 2) := by decide +kernel
theorem dL_law_1209 : decode cL_law 1209 = .ok (.iconst 2, 1) := by decide +kernel
theorem dL_law_1210 : decode cL_law 1210 = .ok (.iadd, 1) := by decide +kernel
theorem dL_law_1211 : decode cL_law 1211 = .ok (.iaload, 1) := by decide +kernel
theorem dL_law_1212 : decode cL_law 1212 = .ok (.aload_n 0, 1) := by decide +kernel
theorem dL_law_1213 : decode cL_law 1213 = .ok (.iload 4, 2) := by decide +kernel
theorem dL_law_1215 : decode cL_law 1215 = .ok (.iconst 3, 1) := by decide +kernel
theorem dL_law_1216 : decode cL_law 1216 = .ok (.iadd, 1) := by decide +kernel
theorem dL_law_1217 : decode cL_law 1217 = .ok (.iaload, 1) := by decide +kernel
theorem dL_law_1218 : decode cL_law 1218 = .ok (.ifCond .eq 7, 3) := by decide +kernel
theorem dL_law_1221 : decode cL_law 1221 = .ok (.iconst 1, 1) := by decide +kernel
theorem dL_law_1222 : decode cL_law 1222 = .ok (.goto 4, 3) := by decide +kernel
theorem dL_law_1225 : decode cL_law 1225 = .ok (.iconst 0, 1) := by decide +kernel
theorem dL_law_1226 : decode cL_law 1226 = .ok (.aload_n 0, 1) := by decide +kernel
theorem dL_law_1227 : decode cL_law 1227 = .ok (.iload 4, 2) := by decide +kernel
theorem dL_law_1229 : decode cL_law 1229 = .ok (.iconst 4, 1) := by decide +kernel
theorem dL_law_1230 : decode cL_law 1230 = .ok (.iadd, 1) := by decide +kernel
theorem dL_law_1231 : decode cL_law 1231 = .ok (.iaload, 1) := by decide +kernel
theorem dL_law_1232 : decode cL_law 1232 = .ok (.ifCond .eq 7, 3) := by decide +kernel
theorem dL_law_1235 : decode cL_law 1235 = .ok (.iconst 1, 1) := by decide +kernel
theorem dL_law_1236 : decode cL_law 1236 = .ok (.goto 4, 3) := by decide +kernel
theorem dL_law_1239 : decode cL_law 1239 = .ok (.iconst 0, 1) := by decide +kernel
theorem dL_law_1240 : decode cL_law 1240 = .ok (.invokevirtual 193, 3) := by decide +kernel
theorem dL_law_1243 : decode cL_law 1243 = .ok (.istore 6, 2) := by decide +kernel
theorem dL_law_1245 : decode cL_law 1245 = .ok (.aload_n 2, 1) := by decide +kernel
theorem dL_law_1246 : decode cL_law 1246 = .ok (.invokevirtual 105, 3) := by decide +kernel
theorem dL_law_1249 : decode cL_law 1249 = .ok (.iload 5, 2) := by decide +kernel
theorem dL_law_1251 : decode cL_law 1251 = .ok (.if_icmp .eq 5, 3) := by decide +kernel
theorem dL_law_1254 : decode cL_law 1254 = .ok (.iconst 0, 1) := by decide +kernel
theorem dL_law_1255 : decode cL_law 1255 = .ok (.ireturn, 1) := by decide +kernel
theorem dL_law_1256 : decode cL_law 1256 = .ok (.iload 5, 2) := by decide +kernel
theorem dL_law_1258 : decode cL_law 1258 = .ok (.ifCond .ne 15, 3) := by decide +kernel
theorem dL_law_1261 : decode cL_law 1261 = .ok (.aload_n 3, 1) := by decide +kernel
theorem dL_law_1262 : decode cL_law 1262 = .ok (.iconst 0, 1) := by decide +kernel
theorem dL_law_1263 : decode cL_law 1263 = .ok (.laload, 1) := by decide +kernel
theorem dL_law_1264 : decode cL_law 1264 = .ok (.iload 6, 2) := by decide +kernel
theorem dL_law_1266 : decode cL_law 1266 = .ok (.i2l, 1) := by decide +kernel
theorem dL_law_1267 : decode cL_law 1267 = .ok (.lcmp, 1) := by decide +kernel
theorem dL_law_1268 : decode cL_law 1268 = .ok (.ifCond .eq 5, 3) := by decide +kernel
theorem dL_law_1271 : decode cL_law 1271 = .ok (.iconst 0, 1) := by decide +kernel
theorem dL_law_1272 : decode cL_law 1272 = .ok (.ireturn, 1) := by decide +kernel
theorem dL_law_1273 : decode cL_law 1273 = .ok (.goto 1063, 3) := by decide +kernel
theorem dL_law_1276 : decode cL_law 1276 = .ok (.aload_n 1, 1) := by decide +kernel
theorem dL_law_1277 : decode cL_law 1277 = .ok (.invokevirtual 194, 3) := by decide +kernel
theorem dL_law_1280 : decode cL_law 1280 = .ok (.aload_n 2, 1) := by decide +kernel
theorem dL_law_1281 : decode cL_law 1281 = .ok (.invokevirtual 197, 3) := by decide +kernel
theorem dL_law_1284 : decode cL_law 1284 = .ok (.if_icmp .eq 1052, 3) := by decide +kernel
theorem dL_law_1287 : decode cL_law 1287 = .ok (.iconst 0, 1) := by decide +kernel
theorem dL_law_1288 : decode cL_law 1288 = .ok (.ireturn, 1) := by decide +kernel
theorem dL_law_1289 : decode cL_law 1289 = .ok (.aload_n 1, 1) := by decide +kernel
theorem dL_law_1290 : decode cL_law 1290 = .ok (.invokevirtual 198, 3) := by decide +kernel
theorem dL_law_1293 : decode cL_law 1293 = .ok (.aload_n 2, 1) := by decide +kernel
theorem dL_law_1294 : decode cL_law 1294 = .ok (.invokevirtual 201, 3) := by decide +kernel
theorem dL_law_1297 : decode cL_law 1297 = .ok (.if_icmp .eq 1039, 3) := by decide +kernel
theorem dL_law_1300 : decode cL_law 1300 = .ok (.iconst 0, 1) := by decide +kernel
theorem dL_law_1301 : decode cL_law 1301 = .ok (.ireturn, 1) := by decide +kernel
theorem dL_law_1302 : decode cL_law 1302 = .ok (.aload_n 1, 1) := by decide +kernel
theorem dL_law_1303 : decode cL_law 1303 = .ok (.invokevirtual 202, 3) := by decide +kernel
theorem dL_law_1306 : decode cL_law 1306 = .ok (.aload_n 2, 1) := by decide +kernel
theorem dL_law_1307 : decode cL_law 1307 = .ok (.invokevirtual 205, 3) := by decide +kernel
theorem dL_law_1310 : decode cL_law 1310 = .ok (.if_icmp .eq 1026, 3) := by decide +kernel
theorem dL_law_1313 : decode cL_law 1313 = .ok (.iconst 0, 1) := by decide +kernel
theorem dL_law_1314 : decode cL_law 1314 = .ok (.ireturn, 1) := by decide +kernel
theorem dL_law_1315 : decode cL_law 1315 = .ok (.aload_n 1, 1) := by decide +kernel
theorem dL_law_1316 : decode cL_law 1316 = .ok (.invokevirtual 206, 3) := by decide +kernel
theorem dL_law_1319 : decode cL_law 1319 = .ok (.aload_n 2, 1) := by decide +kernel
theorem dL_law_1320 : decode cL_law 1320 = .ok (.invokevirtual 209, 3) := by decide +kernel
theorem dL_law_1323 : decode cL_law 1323 = .ok (.if_icmp .eq 1013, 3) := by decide +kernel
theorem dL_law_1326 : decode cL_law 1326 = .ok (.iconst 0, 1) := by decide +kernel
theorem dL_law_1327 : decode cL_law 1327 = .ok (.ireturn, 1) := by decide +kernel
theorem dL_law_1328 : decode cL_law 1328 = .ok (.aload_n 1, 1) := by decide +kernel
theorem dL_law_1329 : decode cL_law 1329 = .ok (.invokevirtual 210, 3) := by decide +kernel
theorem dL_law_1332 : decode cL_law 1332 = .ok (.aload_n 2, 1) := by decide +kernel
theorem dL_law_1333 : decode cL_law 1333 = .ok (.invokevirtual 213, 3) := by decide +kernel
theorem dL_law_1336 : decode cL_law 1336 = .ok (.if_icmp .eq 1000, 3) := by decide +kernel
theorem dL_law_1339 : decode cL_law 1339 = .ok (.iconst 0, 1) := by decide +kernel
theorem dL_law_1340 : decode cL_law 1340 = .ok (.ireturn, 1) := by decide +kernel
theorem dL_law_1341 : decode cL_law 1341 = .ok (.aload_n 1, 1) := by decide +kernel
theorem dL_law_1342 : decode cL_law 1342 = .ok (.invokevirtual 214, 3) := by decide +kernel
theorem dL_law_1345 : decode cL_law 1345 = .ok (.aload_n 2, 1) := by decide +kernel
theorem dL_law_1346 : decode cL_law 1346 = .ok (.invokevirtual 217, 3) := by decide +kernel
theorem dL_law_1349 : decode cL_law 1349 = .ok (.if_icmp .eq 987, 3) := by decide +kernel
theorem dL_law_1352 : decode cL_law 1352 = .ok (.iconst 0, 1) := by decide +kernel
theorem dL_law_1353 : decode cL_law 1353 = .ok (.ireturn, 1) := by decide +kernel
theorem dL_law_1354 : decode cL_law 1354 = .ok (.aload_n 1, 1) := by decide +kernel
theorem dL_law_1355 : decode cL_law 1355 = .ok (.invokevirtual 218, 3) := by decide +kernel
theorem dL_law_1358 : decode cL_law 1358 = .ok (.aload_n 2, 1) := by decide +kernel
theorem dL_law_1359 : decode cL_law 1359 = .ok (.invokevirtual 221, 3) := by decide +kernel
theorem dL_law_1362 : decode cL_law 1362 = .ok (.if_icmp .eq 974, 3) := by decide +kernel
theorem dL_law_1365 : decode cL_law 1365 = .ok (.iconst 0, 1) := by decide +kernel
theorem dL_law_1366 : decode cL_law 1366 = .ok (.ireturn, 1) := by decide +kernel
theorem dL_law_1367 : decode cL_law 1367 = .ok (.aload_n 1, 1) := by decide +kernel
theorem dL_law_1368 : decode cL_law 1368 = .ok (.invokevirtual 222, 3) := by decide +kernel
theorem dL_law_1371 : decode cL_law 1371 = .ok (.aload_n 2, 1) := by decide +kernel
theorem dL_law_1372 : decode cL_law 1372 = .ok (.invokevirtual 225, 3) := by decide +kernel
theorem dL_law_1375 : decode cL_law 1375 = .ok (.if_icmp .eq 961, 3) := by decide +kernel
theorem dL_law_1378 : decode cL_law 1378 = .ok (.iconst 0, 1) := by decide +kernel
theorem dL_law_1379 : decode cL_law 1379 = .ok (.ireturn, 1) := by decide +kernel
theorem dL_law_1380 : decode cL_law 1380 = .ok (.aload_n 1, 1) := by decide +kernel
theorem dL_law_1381 : decode cL_law 1381 = .ok (.invokevirtual 226, 3) := by decide +kernel
theorem dL_law_1384 : decode cL_law 1384 = .ok (.aload_n 2, 1) := by decide +kernel
theorem dL_law_1385 : decode cL_law 1385 = .ok (.invokevirtual 229, 3) := by decide +kernel
theorem dL_law_1388 : decode cL_law 1388 = .ok (.if_icmp .eq 948, 3) := by decide +kernel
theorem dL_law_1391 : decode cL_law 1391 = .ok (.iconst 0, 1) := by decide +kernel
theorem dL_law_1392 : decode cL_law 1392 = .ok (.ireturn, 1) := by decide +kernel
theorem dL_law_1393 : decode cL_law 1393 = .ok (.aload_n 1, 1) := by decide +kernel
theorem dL_law_1394 : decode cL_law 1394 = .ok (.aload_n 0, 1) := by decide +kernel
theorem dL_law_1395 : decode cL_law 1395 = .ok (.iload 4, 2) := by decide +kernel
theorem dL_law_1397 : decode cL_law 1397 = .ok (.iconst 1, 1) := by decide +kernel
theorem dL_law_1398 : decode cL_law 1398 = .ok (.iadd, 1) := by decide +kernel
theorem dL_law_1399 : decode cL_law 1399 = .ok (.iaload, 1) := by decide +kernel
theorem dL_law_1400 : decode cL_law 1400 = .ok (.aload_n 3, 1) := by decide +kernel
theorem dL_law_1401 : decode cL_law 1401 = .ok (.invokestatic 230, 3) := by decide +kernel
theorem dL_law_1404 : decode cL_law 1404 = .ok (.istore 5, 2) := by decide +kernel
theorem dL_law_1406 : decode cL_law 1406 = .ok (.aload_n 2, 1) := by decide +kernel
theorem dL_law_1407 : decode cL_law 1407 = .ok (.aload_n 0, 1) := by decide +kernel
theorem dL_law_1408 : decode cL_law 1408 = .ok (.iload 4, 2) := by decide +kernel
theorem dL_law_1410 : decode cL_law 1410 = .ok (.iconst 1, 1) := by decide +kernel
theorem dL_law_1411 : decode cL_law 1411 = .ok (.iadd, 1) := by decide +kernel
theorem dL_law_1412 : decode cL_law 1412 = .ok (.iaload, 1) := by decide +kernel
theorem dL_law_1413 : decode cL_law 1413 = .ok (.invokevirtual 232, 3) := by decide +kernel
theorem dL_law_1416 : decode cL_law 1416 = .ok (.istore 6, 2) := by decide +kernel
theorem dL_law_1418 : decode cL_law 1418 = .ok (.aload_n 2, 1) := by decide +kernel
theorem dL_law_1419 : decode cL_law 1419 = .ok (.invokevirtual 105, 3) := by decide +kernel
theorem dL_law_1422 : decode cL_law 1422 = .ok (.iload 5, 2) := by decide +kernel
theorem dL_law_1424 : decode cL_law 1424 = .ok (.if_icmp .eq 5, 3) := by decide +kernel
theorem dL_law_1427 : decode cL_law 1427 = .ok (.iconst 0, 1) := by decide +kernel
theorem dL_law_1428 : decode cL_law 1428 = .ok (.ireturn, 1) := by decide +kernel
theorem dL_law_1429 : decode cL_law 1429 = .ok (.iload 5, 2) := by decide +kernel
theorem dL_law_1431 : decode cL_law 1431 = .ok (.ifCond .ne 15, 3) := by decide +kernel
theorem dL_law_1434 : decode cL_law 1434 = .ok (.aload_n 3, 1) := by decide +kernel
theorem dL_law_1435 : decode cL_law 1435 = .ok (.iconst 0, 1) := by decide +kernel
theorem dL_law_1436 : decode cL_law 1436 = .ok (.laload, 1) := by decide +kernel
theorem dL_law_1437 : decode cL_law 1437 = .ok (.iload 6, 2) := by decide +kernel
theorem dL_law_1439 : decode cL_law 1439 = .ok (.i2l, 1) := by decide +kernel
theorem dL_law_1440 : decode cL_law 1440 = .ok (.lcmp, 1) := by decide +kernel
theorem dL_law_1441 : decode cL_law 1441 = .ok (.ifCond .eq 5, 3) := by decide +kernel
theorem dL_law_1444 : decode cL_law 1444 = .ok (.iconst 0, 1) := by decide +kernel
theorem dL_law_1445 : decode cL_law 1445 = .ok (.ireturn, 1) := by decide +kernel
theorem dL_law_1446 : decode cL_law 1446 = .ok (.goto 890, 3) := by decide +kernel
theorem dL_law_1449 : decode cL_law 1449 = .ok (.aload_n 1, 1) := by decide +kernel
theorem dL_law_1450 : decode cL_law 1450 = .ok (.aload_n 0, 1) := by decide +kernel
theorem dL_law_1451 : decode cL_law 1451 = .ok (.iload 4, 2) := by decide +kernel
theorem dL_law_1453 : decode cL_law 1453 = .ok (.iconst 1, 1) := by decide +kernel
theorem dL_law_1454 : decode cL_law 1454 = .ok (.iadd, 1) := by decide +kernel
theorem dL_law_1455 : decode cL_law 1455 = .ok (.iaload, 1) := by decide +kernel
theorem dL_law_1456 : decode cL_law 1456 = .ok (.aload_n 0, 1) := by decide +kernel
theorem dL_law_1457 : decode cL_law 1457 = .ok (.iload 4, 2) := by decide +kernel
theorem dL_law_1459 : decode cL_law 1459 = .ok (.iconst 2, 1) := by decide +kernel
theorem dL_law_1460 : decode cL_law 1460 = .ok (.iadd, 1) := by decide +kernel
theorem dL_law_1461 : decode cL_law 1461 = .ok (.iaload, 1) := by decide +kernel
theorem dL_law_1462 : decode cL_law 1462 = .ok (.aload_n 3, 1) := by decide +kernel
theorem dL_law_1463 : decode cL_law 1463 = .ok (.invokestatic 233, 3) := by decide +kernel
theorem dL_law_1466 : decode cL_law 1466 = .ok (.istore 5, 2) := by decide +kernel
theorem dL_law_1468 : decode cL_law 1468 = .ok (.aload_n 2, 1) := by decide +kernel
theorem dL_law_1469 : decode cL_law 1469 = .ok (.aload_n 0, 1) := by decide +kernel
theorem dL_law_1470 : decode cL_law 1470 = .ok (.iload 4, 2) := by decide +kernel
theorem dL_law_1472 : decode cL_law 1472 = .ok (.iconst 1, 1) := by decide +kernel
theorem dL_law_1473 : decode cL_law 1473 = .ok (.iadd, 1) := by decide +kernel
theorem dL_law_1474 : decode cL_law 1474 = .ok (.iaload, 1) := by decide +kernel
theorem dL_law_1475 : decode cL_law 1475 = .ok (.aload_n 0, 1) := by decide +kernel
theorem dL_law_1476 : decode cL_law 1476 = .ok (.iload 4, 2) := by decide +kernel
theorem dL_law_1478 : decode cL_law 1478 = .ok (.iconst 2, 1) := by decide +kernel
theorem dL_law_1479 : decode cL_law 1479 = .ok (.iadd, 1) := by decide +kernel
theorem dL_law_1480 : decode cL_law 1480 = .ok (.iaload, 1) := by decide +kernel
theorem dL_law_1481 : decode cL_law 1481 = .ok (.invokevirtual 235, 3) := by decide +kernel
theorem dL_law_1484 : decode cL_law 1484 = .ok (.istore 6, 2) := by decide +kernel
theorem dL_law_1486 : decode cL_law 1486 = .ok (.aload_n 2, 1) := by decide +kernel
theorem dL_law_1487 : decode cL_law 1487 = .ok (.invokevirtual 105, 3) := by decide +kernel
theorem dL_law_1490 : decode cL_law 1490 = .ok (.iload 5, 2) := by decide +kernel
theorem dL_law_1492 : decode cL_law 1492 = .ok (.if_icmp .eq 5, 3) := by decide +kernel
theorem dL_law_1495 : decode cL_law 1495 = .ok (.iconst 0, 1) := by decide +kernel
theorem dL_law_1496 : decode cL_law 1496 = .ok (.ireturn, 1) := by decide +kernel
theorem dL_law_1497 : decode cL_law 1497 = .ok (.iload 5, 2) := by decide +kernel
theorem dL_law_1499 : decode cL_law 1499 = .ok (.ifCond .ne 15, 3) := by decide +kernel
theorem dL_law_1502 : decode cL_law 1502 = .ok (.aload_n 3, 1) := by decide +kernel
theorem dL_law_1503 : decode cL_law 1503 = .ok (.iconst 0, 1) := by decide +kernel
theorem dL_law_1504 : decode cL_law 1504 = .ok (.laload, 1) := by decide +kernel
theorem dL_law_1505 : decode cL_law 1505 = .ok (.iload 6, 2) := by decide +kernel
theorem dL_law_1507 : decode cL_law 1507 = .ok (.i2l, 1) := by decide +kernel
theorem dL_law_1508 : decode cL_law 1508 = .ok (.lcmp, 1) := by decide +kernel
theorem dL_law_1509 : decode cL_law 1509 = .ok (.ifCond .eq 5, 3) := by decide +kernel
theorem dL_law_1512 : decode cL_law 1512 = .ok (.iconst 0, 1) := by decide +kernel
theorem dL_law_1513 : decode cL_law 1513 = .ok (.ireturn, 1) := by decide +kernel
theorem dL_law_1514 : decode cL_law 1514 = .ok (.goto 822, 3) := by decide +kernel
theorem dL_law_1517 : decode cL_law 1517 = .ok (.aload_n 1, 1) := by decide +kernel
theorem dL_law_1518 : decode cL_law 1518 = .ok (.invokevirtual 236, 3) := by decide +kernel
theorem dL_law_1521 : decode cL_law 1521 = .ok (.aload_n 2, 1) := by decide +kernel
theorem dL_law_1522 : decode cL_law 1522 = .ok (.invokevirtual 239, 3) := by decide +kernel
theorem dL_law_1525 : decode cL_law 1525 = .ok (.if_icmp .eq 811, 3) := by decide +kernel
theorem dL_law_1528 : decode cL_law 1528 = .ok (.iconst 0, 1) := by decide +kernel
theorem dL_law_1529 : decode cL_law 1529 = .ok (.ireturn, 1) := by decide +kernel
theorem dL_law_1530 : decode cL_law 1530 = .ok (.aload_n 1, 1) := by decide +kernel
theorem dL_law_1531 : decode cL_law 1531 = .ok (.invokevirtual 240, 3) := by decide +kernel
theorem dL_law_1534 : decode cL_law 1534 = .ok (.aload_n 2, 1) := by decide +kernel
theorem dL_law_1535 : decode cL_law 1535 = .ok (.invokevirtual 243, 3) := by decide +kernel
theorem dL_law_1538 : decode cL_law 1538 = .ok (.if_icmp .eq 798, 3) := by decide +kernel
theorem dL_law_1541 : decode cL_law 1541 = .ok (.iconst 0, 1) := by decide +kernel
theorem dL_law_1542 : decode cL_law 1542 = .ok (.ireturn, 1) := by decide +kernel
theorem dL_law_1543 : decode cL_law 1543 = .ok (.aload_n 1, 1) := by decide +kernel
theorem dL_law_1544 : decode cL_law 1544 = .ok (.invokevirtual 244, 3) := by decide +kernel
theorem dL_law_1547 : decode cL_law 1547 = .ok (.aload_n 2, 1) := by decide +kernel
theorem dL_law_1548 : decode cL_law 1548 = .ok (.invokevirtual 247, 3) := by decide +kernel
theorem dL_law_1551 : decode cL_law 1551 = .ok (.if_icmp .eq 785, 3) := by decide +kernel
theorem dL_law_1554 : decode cL_law 1554 = .ok (.iconst 0, 1) := by decide +kernel
theorem dL_law_1555 : decode cL_law 1555 = .ok (.ireturn, 1) := by decide +kernel
theorem dL_law_1556 : decode cL_law 1556 = .ok (.aload_n 1, 1) := by decide +kernel
theorem dL_law_1557 : decode cL_law 1557 = .ok (.invokevirtual 248, 3) := by decide +kernel
theorem dL_law_1560 : decode cL_law 1560 = .ok (.aload_n 2, 1) := by decide +kernel
theorem dL_law_1561 : decode cL_law 1561 = .ok (.invokevirtual 251, 3) := by decide +kernel
theorem dL_law_1564 : decode cL_law 1564 = .ok (.if_icmp .eq 772, 3) := by decide +kernel
theorem dL_law_1567 : decode cL_law 1567 = .ok (.iconst 0, 1) := by decide +kernel
theorem dL_law_1568 : decode cL_law 1568 = .ok (.ireturn, 1) := by decide +kernel
theorem dL_law_1569 : decode cL_law 1569 = .ok (.aload_n 1, 1) := by decide +kernel
theorem dL_law_1570 : decode cL_law 1570 = .ok (.invokevirtual 252, 3) := by decide +kernel
theorem dL_law_1573 : decode cL_law 1573 = .ok (.aload_n 2, 1) := by decide +kernel
theorem dL_law_1574 : decode cL_law 1574 = .ok (.invokevirtual 255, 3) := by decide +kernel
theorem dL_law_1577 : decode cL_law 1577 = .ok (.if_icmp .eq 759, 3) := by decide +kernel
theorem dL_law_1580 : decode cL_law 1580 = .ok (.iconst 0, 1) := by decide +kernel
theorem dL_law_1581 : decode cL_law 1581 = .ok (.ireturn, 1) := by decide +kernel
theorem dL_law_1582 : decode cL_law 1582 = .ok (.aload_n 1, 1) := by decide +kernel
theorem dL_law_1583 : decode cL_law 1583 = .ok (.invokevirtual 256, 3) := by decide +kernel
theorem dL_law_1586 : decode cL_law 1586 = .ok (.aload_n 2, 1) := by decide +kernel
theorem dL_law_1587 : decode cL_law 1587 = .ok (.invokevirtual 259, 3) := by decide +kernel
theorem dL_law_1590 : decode cL_law 1590 = .ok (.if_icmp .eq 746, 3) := by decide +kernel
theorem dL_law_1593 : decode cL_law 1593 = .ok (.iconst 0, 1) := by decide +kernel
theorem dL_law_1594 : decode cL_law 1594 = .ok (.ireturn, 1) := by decide +kernel
theorem dL_law_1595 : decode cL_law 1595 = .ok (.aload_n 1, 1) := by decide +kernel
theorem dL_law_1596 : decode cL_law 1596 = .ok (.aload_n 0, 1) := by decide +kernel
theorem dL_law_1597 : decode cL_law 1597 = .ok (.iload 4, 2) := by decide +kernel
theorem dL_law_1599 : decode cL_law 1599 = .ok (.iconst 1, 1) := by decide +kernel
theorem dL_law_1600 : decode cL_law 1600 = .ok (.iadd, 1) := by decide +kernel
theorem dL_law_1601 : decode cL_law 1601 = .ok (.iaload, 1) := by decide +kernel
theorem dL_law_1602 : decode cL_law 1602 = .ok (.aload_n 3, 1) := by decide +kernel
theorem dL_law_1603 : decode cL_law 1603 = .ok (.invokestatic 260, 3) := by decide +kernel
theorem dL_law_1606 : decode cL_law 1606 = .ok (.istore 5, 2) := by decide +kernel
theorem dL_law_1608 : decode cL_law 1608 = .ok (.aload_n 2, 1) := by decide +kernel
theorem dL_law_1609 : decode cL_law 1609 = .ok (.aload_n 0, 1) := by decide +kernel
theorem dL_law_1610 : decode cL_law 1610 = .ok (.iload 4, 2) := by decide +kernel
theorem dL_law_1612 : decode cL_law 1612 = .ok (.iconst 1, 1) := by decide +kernel
theorem dL_law_1613 : decode cL_law 1613 = .ok (.iadd, 1) := by decide +kernel
theorem dL_law_1614 : decode cL_law 1614 = .ok (.iaload, 1) := by decide +kernel
theorem dL_law_1615 : decode cL_law 1615 = .ok (.invokevirtual 262, 3) := by decide +kernel
theorem dL_law_1618 : decode cL_law 1618 = .ok (.istore 6, 2) := by decide +kernel
theorem dL_law_1620 : decode cL_law 1620 = .ok (.aload_n 2, 1) := by decide +kernel
theorem dL_law_1621 : decode cL_law 1621 = .ok (.invokevirtual 105, 3) := by decide +kernel
theorem dL_law_1624 : decode cL_law 1624 = .ok (.iload 5, 2) := by decide +kernel
theorem dL_law_1626 : decode cL_law 1626 = .ok (.if_icmp .eq 5, 3) := by decide +kernel
theorem dL_law_1629 : decode cL_law 1629 = .ok (.iconst 0, 1) := by decide +kernel
theorem dL_law_1630 : decode cL_law 1630 = .ok (.ireturn, 1) := by decide +kernel
theorem dL_law_1631 : decode cL_law 1631 = .ok (.iload 5, 2) := by decide +kernel
theorem dL_law_1633 : decode cL_law 1633 = .ok (.ifCond .ne 15, 3) := by decide +kernel
theorem dL_law_1636 : decode cL_law 1636 = .ok (.aload_n 3, 1) := by decide +kernel
theorem dL_law_1637 : decode cL_law 1637 = .ok (.iconst 0, 1) := by decide +kernel
theorem dL_law_1638 : decode cL_law 1638 = .ok (.laload, 1) := by decide +kernel
theorem dL_law_1639 : decode cL_law 1639 = .ok (.iload 6, 2) := by decide +kernel
theorem dL_law_1641 : decode cL_law 1641 = .ok (.i2l, 1) := by decide +kernel
theorem dL_law_1642 : decode cL_law 1642 = .ok (.lcmp, 1) := by decide +kernel
theorem dL_law_1643 : decode cL_law 1643 = .ok (.ifCond .eq 5, 3) := by decide +kernel
theorem dL_law_1646 : decode cL_law 1646 = .ok (.iconst 0, 1) := by decide +kernel
theorem dL_law_1647 : decode cL_law 1647 = .ok (.ireturn, 1) := by decide +kernel
theorem dL_law_1648 : decode cL_law 1648 = .ok (.goto 688, 3) := by decide +kernel
theorem dL_law_1651 : decode cL_law 1651 = .ok (.aload_n 1, 1) := by decide +kernel
theorem dL_law_1652 : decode cL_law 1652 = .ok (.invokevirtual 263, 3) := by decide +kernel
theorem dL_law_1655 : decode cL_law 1655 = .ok (.aload_n 2, 1) := by decide +kernel
theorem dL_law_1656 : decode cL_law 1656 = .ok (.invokevirtual 266, 3) := by decide +kernel
theorem dL_law_1659 : decode cL_law 1659 = .ok (.if_icmp .eq 677, 3) := by decide +kernel
theorem dL_law_1662 : decode cL_law 1662 = .ok (.iconst 0, 1) := by decide +kernel
theorem dL_law_1663 : decode cL_law 1663 = .ok (.ireturn, 1) := by decide +kernel
theorem dL_law_1664 : decode cL_law 1664 = .ok (.aload_n 1, 1) := by decide +kernel
theorem dL_law_1665 : decode cL_law 1665 = .ok (.aload_n 0, 1) := by decide +kernel
theorem dL_law_1666 : decode cL_law 1666 = .ok (.iload 4, 2) := by decide +kernel
theorem dL_law_1668 : decode cL_law 1668 = .ok (.iconst 1, 1) := by decide +kernel
theorem dL_law_1669 : decode cL_law 1669 = .ok (.iadd, 1) := by decide +kernel
theorem dL_law_1670 : decode cL_law 1670 = .ok (.iaload, 1) := by decide +kernel
theorem dL_law_1671 : decode cL_law 1671 = .ok (.aload_n 3, 1) := by decide +kernel
theorem dL_law_1672 : decode cL_law 1672 = .ok (.invokestatic 267, 3) := by decide +kernel
theorem dL_law_1675 : decode cL_law 1675 = .ok (.istore 5, 2) := by decide +kernel
theorem dL_law_1677 : decode cL_law 1677 = .ok (.aload_n 2, 1) := by decide +kernel
theorem dL_law_1678 : decode cL_law 1678 = .ok (.aload_n 0, 1) := by decide +kernel
theorem dL_law_1679 : decode cL_law 1679 = .ok (.iload 4, 2) := by decide +kernel
theorem dL_law_1681 : decode cL_law 1681 = .ok (.iconst 1, 1) := by decide +kernel
theorem dL_law_1682 : decode cL_law 1682 = .ok (.iadd, 1) := by decide +kernel
theorem dL_law_1683 : decode cL_law 1683 = .ok (.iaload, 1) := by decide +kernel
theorem dL_law_1684 : decode cL_law 1684 = .ok (.invokevirtual 269, 3) := by decide +kernel
theorem dL_law_1687 : decode cL_law 1687 = .ok (.istore 6, 2) := by decide +kernel
theorem dL_law_1689 : decode cL_law 1689 = .ok (.aload_n 2, 1) := by decide +kernel
theorem dL_law_1690 : decode cL_law 1690 = .ok (.invokevirtual 105, 3) := by decide +kernel
theorem dL_law_1693 : decode cL_law 1693 = .ok (.iload 5, 2) := by decide +kernel
theorem dL_law_1695 : decode cL_law 1695 = .ok (.if_icmp .eq 5, 3) := by decide +kernel
theorem dL_law_1698 : decode cL_law 1698 = .ok (.iconst 0, 1) := by decide +kernel
theorem dL_law_1699 : decode cL_law 1699 = .ok (.ireturn, 1) := by decide +kernel
theorem dL_law_1700 : decode cL_law 1700 = .ok (.iload 5, 2) := by decide +kernel
theorem dL_law_1702 : decode cL_law 1702 = .ok (.ifCond .ne 15, 3) := by decide +kernel
theorem dL_law_1705 : decode cL_law 1705 = .ok (.aload_n 3, 1) := by decide +kernel
theorem dL_law_1706 : decode cL_law 1706 = .ok (.iconst 0, 1) := by decide +kernel
theorem dL_law_1707 : decode cL_law 1707 = .ok (.laload, 1) := by decide +kernel
theorem dL_law_1708 : decode cL_law 1708 = .ok (.iload 6, 2) := by decide +kernel
theorem dL_law_1710 : decode cL_law 1710 = .ok (.i2l, 1) := by decide +kernel
theorem dL_law_1711 : decode cL_law 1711 = .ok (.lcmp, 1) := by decide +kernel
theorem dL_law_1712 : decode cL_law 1712 = .ok (.ifCond .eq 5, 3) := by decide +kernel
theorem dL_law_1715 : decode cL_law 1715 = .ok (.iconst 0, 1) := by decide +kernel
theorem dL_law_1716 : decode cL_law 1716 = .ok (.ireturn, 1) := by decide +kernel
theorem dL_law_1717 : decode cL_law 1717 = .ok (.goto 619, 3) := by decide +kernel
theorem dL_law_1720 : decode cL_law 1720 = .ok (.aload_n 1, 1) := by decide +kernel
theorem dL_law_1721 : decode cL_law 1721 = .ok (.aload_n 0, 1) := by decide +kernel
theorem dL_law_1722 : decode cL_law 1722 = .ok (.iload 4, 2) := by decide +kernel
theorem dL_law_1724 : decode cL_law 1724 = .ok (.iconst 1, 1) := by decide +kernel
theorem dL_law_1725 : decode cL_law 1725 = .ok (.iadd, 1) := by decide +kernel
theorem dL_law_1726 : decode cL_law 1726 = .ok (.iaload, 1) := by decide +kernel
theorem dL_law_1727 : decode cL_law 1727 = .ok (.aload_n 3, 1) := by decide +kernel
theorem dL_law_1728 : decode cL_law 1728 = .ok (.invokestatic 270, 3) := by decide +kernel
theorem dL_law_1731 : decode cL_law 1731 = .ok (.istore 5, 2) := by decide +kernel
theorem dL_law_1733 : decode cL_law 1733 = .ok (.aload_n 2, 1) := by decide +kernel
theorem dL_law_1734 : decode cL_law 1734 = .ok (.aload_n 0, 1) := by decide +kernel
theorem dL_law_1735 : decode cL_law 1735 = .ok (.iload 4, 2) := by decide +kernel
theorem dL_law_1737 : decode cL_law 1737 = .ok (.iconst 1, 1) := by decide +kernel
theorem dL_law_1738 : decode cL_law 1738 = .ok (.iadd, 1) := by decide +kernel
theorem dL_law_1739 : decode cL_law 1739 = .ok (.iaload, 1) := by decide +kernel
theorem dL_law_1740 : decode cL_law 1740 = .ok (.invokevirtual 272, 3) := by decide +kernel
theorem dL_law_1743 : decode cL_law 1743 = .ok (.istore 6, 2) := by decide +kernel
theorem dL_law_1745 : decode cL_law 1745 = .ok (.aload_n 2, 1) := by decide +kernel
theorem dL_law_1746 : decode cL_law 1746 = .ok (.invokevirtual 105, 3) := by decide +kernel
theorem dL_law_1749 : decode cL_law 1749 = .ok (.iload 5, 2) := by decide +kernel
theorem dL_law_1751 : decode cL_law 1751 = .ok (.if_icmp .eq 5, 3) := by decide +kernel
theorem dL_law_1754 : decode cL_law 1754 = .ok (.iconst 0, 1) := by decide +kernel
theorem dL_law_1755 : decode cL_law 1755 = .ok (.ireturn, 1) := by decide +kernel
theorem dL_law_1756 : decode cL_law 1756 = .ok (.iload 5, 2) := by decide +kernel
theorem dL_law_1758 : decode cL_law 1758 = .ok (.ifCond .ne 15, 3) := by decide +kernel
theorem dL_law_1761 : decode cL_law 1761 = .ok (.aload_n 3, 1) := by decide +kernel
theorem dL_law_1762 : decode cL_law 1762 = .ok (.iconst 0, 1) := by decide +kernel
theorem dL_law_1763 : decode cL_law 1763 = .ok (.laload, 1) := by decide +kernel
theorem dL_law_1764 : decode cL_law 1764 = .ok (.iload 6, 2) := by decide +kernel
theorem dL_law_1766 : decode cL_law 1766 = .ok (.i2l, 1) := by decide +kernel
theorem dL_law_1767 : decode cL_law 1767 = .ok (.lcmp, 1) := by decide +kernel
theorem dL_law_1768 : decode cL_law 1768 = .ok (.ifCond .eq 5, 3) := by decide +kernel
theorem dL_law_1771 : decode cL_law 1771 = .ok (.iconst 0, 1) := by decide +kernel
theorem dL_law_1772 : decode cL_law 1772 = .ok (.ireturn, 1) := by decide +kernel
theorem dL_law_1773 : decode cL_law 1773 = .ok (.goto 563, 3) := by decide +kernel
theorem dL_law_1776 : decode cL_law 1776 = .ok (.aload_n 1, 1) := by decide +kernel
theorem dL_law_1777 : decode cL_law 1777 = .ok (.invokevirtual 273, 3) := by decide +kernel
theorem dL_law_1780 : decode cL_law 1780 = .ok (.aload_n 2, 1) := by decide +kernel
theorem dL_law_1781 : decode cL_law 1781 = .ok (.invokevirtual 276, 3) := by decide +kernel
theorem dL_law_1784 : decode cL_law 1784 = .ok (.if_icmp .eq 552, 3) := by decide +kernel
theorem dL_law_1787 : decode cL_law 1787 = .ok (.iconst 0, 1) := by decide +kernel
theorem dL_law_1788 : decode cL_law 1788 = .ok (.ireturn, 1) := by decide +kernel
theorem dL_law_1789 : decode cL_law 1789 = .ok (.aload_n 1, 1) := by decide +kernel
theorem dL_law_1790 : decode cL_law 1790 = .ok (.aload_n 0, 1) := by decide +kernel
theorem dL_law_1791 : decode cL_law 1791 = .ok (.iload 4, 2) := by decide +kernel
theorem dL_law_1793 : decode cL_law 1793 = .ok (.iconst 1, 1) := by decide +kernel
theorem dL_law_1794 : decode cL_law 1794 = .ok (.iadd, 1) := by decide +kernel
theorem dL_law_1795 : decode cL_law 1795 = .ok (.iaload, 1) := by decide +kernel
theorem dL_law_1796 : decode cL_law 1796 = .ok (.aload_n 3, 1) := by decide +kernel
theorem dL_law_1797 : decode cL_law 1797 = .ok (.invokestatic 277, 3) := by decide +kernel
theorem dL_law_1800 : decode cL_law 1800 = .ok (.istore 5, 2) := by decide +kernel
theorem dL_law_1802 : decode cL_law 1802 = .ok (.aload_n 2, 1) := by decide +kernel
theorem dL_law_1803 : decode cL_law 1803 = .ok (.aload_n 0, 1) := by decide +kernel
theorem dL_law_1804 : decode cL_law 1804 = .ok (.iload 4, 2) := by decide +kernel
theorem dL_law_1806 : decode cL_law 1806 = .ok (.iconst 1, 1) := by decide +kernel
theorem dL_law_1807 : decode cL_law 1807 = .ok (.iadd, 1) := by decide +kernel
theorem dL_law_1808 : decode cL_law 1808 = .ok (.iaload, 1) := by decide +kernel
theorem dL_law_1809 : decode cL_law 1809 = .ok (.invokevirtual 279, 3) := by decide +kernel
theorem dL_law_1812 : decode cL_law 1812 = .ok (.istore 6, 2) := by decide +kernel
theorem dL_law_1814 : decode cL_law 1814 = .ok (.aload_n 2, 1) := by decide +kernel
theorem dL_law_1815 : decode cL_law 1815 = .ok (.invokevirtual 105, 3) := by decide +kernel
theorem dL_law_1818 : decode cL_law 1818 = .ok (.iload 5, 2) := by decide +kernel
theorem dL_law_1820 : decode cL_law 1820 = .ok (.if_icmp .eq 5, 3) := by decide +kernel
theorem dL_law_1823 : decode cL_law 1823 = .ok (.iconst 0, 1) := by decide +kernel
theorem dL_law_1824 : decode cL_law 1824 = .ok (.ireturn, 1) := by decide +kernel
theorem dL_law_1825 : decode cL_law 1825 = .ok (.iload 5, 2) := by decide +kernel
theorem dL_law_1827 : decode cL_law 1827 = .ok (.ifCond .ne 15, 3) := by decide +kernel
theorem dL_law_1830 : decode cL_law 1830 = .ok (.aload_n 3, 1) := by decide +kernel
theorem dL_law_1831 : decode cL_law 1831 = .ok (.iconst 0, 1) := by decide +kernel
theorem dL_law_1832 : decode cL_law 1832 = .ok (.laload, 1) := by decide +kernel
theorem dL_law_1833 : decode cL_law 1833 = .ok (.iload 6, 2) := by decide +kernel
theorem dL_law_1835 : decode cL_law 1835 = .ok (.i2l, 1) := by decide +kernel
theorem dL_law_1836 : decode cL_law 1836 = .ok (.lcmp, 1) := by decide +kernel
theorem dL_law_1837 : decode cL_law 1837 = .ok (.ifCond .eq 5, 3) := by decide +kernel
theorem dL_law_1840 : decode cL_law 1840 = .ok (.iconst 0, 1) := by decide +kernel
theorem dL_law_1841 : decode cL_law 1841 = .ok (.ireturn, 1) := by decide +kernel
theorem dL_law_1842 : decode cL_law 1842 = .ok (.goto 494, 3) := by decide +kernel
theorem dL_law_1845 : decode cL_law 1845 = .ok (.aload_n 1, 1) := by decide +kernel
theorem dL_law_1846 : decode cL_law 1846 = .ok (.aload_n 0, 1) := by decide +kernel
theorem dL_law_1847 : decode cL_law 1847 = .ok (.iload 4, 2) := by decide +kernel
theorem dL_law_1849 : decode cL_law 1849 = .ok (.iconst 1, 1) := by decide +kernel
theorem dL_law_1850 : decode cL_law 1850 = .ok (.iadd, 1) := by decide +kernel
theorem dL_law_1851 : decode cL_law 1851 = .ok (.iaload, 1) := by decide +kernel
theorem dL_law_1852 : decode cL_law 1852 = .ok (.aload_n 3, 1) := by decide +kernel
theorem dL_law_1853 : decode cL_law 1853 = .ok (.invokestatic 280, 3) := by decide +kernel
theorem dL_law_1856 : decode cL_law 1856 = .ok (.istore 5, 2) := by decide +kernel
theorem dL_law_1858 : decode cL_law 1858 = .ok (.aload_n 2, 1) := by decide +kernel
theorem dL_law_1859 : decode cL_law 1859 = .ok (.aload_n 0, 1) := by decide +kernel
theorem dL_law_1860 : decode cL_law 1860 = .ok (.iload 4, 2) := by decide +kernel
theorem dL_law_1862 : decode cL_law 1862 = .ok (.iconst 1, 1) := by decide +kernel
theorem dL_law_1863 : decode cL_law 1863 = .ok (.iadd, 1) := by decide +kernel
theorem dL_law_1864 : decode cL_law 1864 = .ok (.iaload, 1) := by decide +kernel
theorem dL_law_1865 : decode cL_law 1865 = .ok (.invokevirtual 282, 3) := by decide +kernel
theorem dL_law_1868 : decode cL_law 1868 = .ok (.istore 6, 2) := by decide +kernel
theorem dL_law_1870 : decode cL_law 1870 = .ok (.aload_n 2, 1) := by decide +kernel
theorem dL_law_1871 : decode cL_law 1871 = .ok (.invokevirtual 105, 3) := by decide +kernel
theorem dL_law_1874 : decode cL_law 1874 = .ok (.iload 5, 2) := by decide +kernel
theorem dL_law_1876 : decode cL_law 1876 = .ok (.if_icmp .eq 5, 3) := by decide +kernel
theorem dL_law_1879 : decode cL_law 1879 = .ok (.iconst 0, 1) := by decide +kernel
theorem dL_law_1880 : decode cL_law 1880 = .ok (.ireturn, 1) := by decide +kernel
theorem dL_law_1881 : decode cL_law 1881 = .ok (.iload 5, 2) := by decide +kernel
theorem dL_law_1883 : decode cL_law 1883 = .ok (.ifCond .ne 15, 3) := by decide +kernel
theorem dL_law_1886 : decode cL_law 1886 = .ok (.aload_n 3, 1) := by decide +kernel
theorem dL_law_1887 : decode cL_law 1887 = .ok (.iconst 0, 1) := by decide +kernel
theorem dL_law_1888 : decode cL_law 1888 = .ok (.laload, 1) := by decide +kernel
theorem dL_law_1889 : decode cL_law 1889 = .ok (.iload 6, 2) := by decide +kernel
theorem dL_law_1891 : decode cL_law 1891 = .ok (.i2l, 1) := by decide +kernel
theorem dL_law_1892 : decode cL_law 1892 = .ok (.lcmp, 1) := by decide +kernel
theorem dL_law_1893 : decode cL_law 1893 = .ok (.ifCond .eq 5, 3) := by decide +kernel
theorem dL_law_1896 : decode cL_law 1896 = .ok (.iconst 0, 1) := by decide +kernel
theorem dL_law_1897 : decode cL_law 1897 = .ok (.ireturn, 1) := by decide +kernel
theorem dL_law_1898 : decode cL_law 1898 = .ok (.goto 438, 3) := by decide +kernel
theorem dL_law_1901 : decode cL_law 1901 = .ok (.aload_n 1, 1) := by decide +kernel
theorem dL_law_1902 : decode cL_law 1902 = .ok (.aload_n 0, 1) := by decide +kernel
theorem dL_law_1903 : decode cL_law 1903 = .ok (.iload 4, 2) := by decide +kernel
theorem dL_law_1905 : decode cL_law 1905 = .ok (.iconst 1, 1) := by decide +kernel
theorem dL_law_1906 : decode cL_law 1906 = .ok (.iadd, 1) := by decide +kernel
theorem dL_law_1907 : decode cL_law 1907 = .ok (.iaload, 1) := by decide +kernel
theorem dL_law_1908 : decode cL_law 1908 = .ok (.aload_n 3, 1) := by decide +kernel
theorem dL_law_1909 : decode cL_law 1909 = .ok (.invokestatic 283, 3) := by decide +kernel
theorem dL_law_1912 : decode cL_law 1912 = .ok (.istore 5, 2) := by decide +kernel
theorem dL_law_1914 : decode cL_law 1914 = .ok (.aload_n 2, 1) := by decide +kernel
theorem dL_law_1915 : decode cL_law 1915 = .ok (.aload_n 0, 1) := by decide +kernel
theorem dL_law_1916 : decode cL_law 1916 = .ok (.iload 4, 2) := by decide +kernel
theorem dL_law_1918 : decode cL_law 1918 = .ok (.iconst 1, 1) := by decide +kernel
theorem dL_law_1919 : decode cL_law 1919 = .ok (.iadd, 1) := by decide +kernel
theorem dL_law_1920 : decode cL_law 1920 = .ok (.iaload, 1) := by decide +kernel
theorem dL_law_1921 : decode cL_law 1921 = .ok (.invokevirtual 285, 3) := by decide +kernel
theorem dL_law_1924 : decode cL_law 1924 = .ok (.istore 6, 2) := by decide +kernel
theorem dL_law_1926 : decode cL_law 1926 = .ok (.aload_n 2, 1) := by decide +kernel
theorem dL_law_1927 : decode cL_law 1927 = .ok (.invokevirtual 105, 3) := by decide +kernel
theorem dL_law_1930 : decode cL_law 1930 = .ok (.iload 5, 2) := by decide +kernel
theorem dL_law_1932 : decode cL_law 1932 = .ok (.if_icmp .eq 5, 3) := by decide +kernel
theorem dL_law_1935 : decode cL_law 1935 = .ok (.iconst 0, 1) := by decide +kernel
theorem dL_law_1936 : decode cL_law 1936 = .ok (.ireturn, 1) := by decide +kernel
theorem dL_law_1937 : decode cL_law 1937 = .ok (.iload 5, 2) := by decide +kernel
theorem dL_law_1939 : decode cL_law 1939 = .ok (.ifCond .ne 15, 3) := by decide +kernel
theorem dL_law_1942 : decode cL_law 1942 = .ok (.aload_n 3, 1) := by decide +kernel
theorem dL_law_1943 : decode cL_law 1943 = .ok (.iconst 0, 1) := by decide +kernel
theorem dL_law_1944 : decode cL_law 1944 = .ok (.laload, 1) := by decide +kernel
theorem dL_law_1945 : decode cL_law 1945 = .ok (.iload 6, 2) := by decide +kernel
theorem dL_law_1947 : decode cL_law 1947 = .ok (.i2l, 1) := by decide +kernel
theorem dL_law_1948 : decode cL_law 1948 = .ok (.lcmp, 1) := by decide +kernel
theorem dL_law_1949 : decode cL_law 1949 = .ok (.ifCond .eq 5, 3) := by decide +kernel
theorem dL_law_1952 : decode cL_law 1952 = .ok (.iconst 0, 1) := by decide +kernel
theorem dL_law_1953 : decode cL_law 1953 = .ok (.ireturn, 1) := by decide +kernel
theorem dL_law_1954 : decode cL_law 1954 = .ok (.goto 382, 3) := by decide +kernel
theorem dL_law_1957 : decode cL_law 1957 = .ok (.aload_n 1, 1) := by decide +kernel
theorem dL_law_1958 : decode cL_law 1958 = .ok (.aload_n 0, 1) := by decide +kernel
theorem dL_law_1959 : decode cL_law 1959 = .ok (.iload 4, 2) := by decide +kernel
theorem dL_law_1961 : decode cL_law 1961 = .ok (.iconst 1, 1) := by decide +kernel
theorem dL_law_1962 : decode cL_law 1962 = .ok (.iadd, 1) := by decide +kernel
theorem dL_law_1963 : decode cL_law 1963 = .ok (.iaload, 1) := by decide +kernel
theorem dL_law_1964 : decode cL_law 1964 = .ok (.aload_n 3, 1) := by decide +kernel
theorem dL_law_1965 : decode cL_law 1965 = .ok (.invokestatic 286, 3) := by decide +kernel
theorem dL_law_1968 : decode cL_law 1968 = .ok (.istore 5, 2) := by decide +kernel
theorem dL_law_1970 : decode cL_law 1970 = .ok (.aload_n 2, 1) := by decide +kernel
theorem dL_law_1971 : decode cL_law 1971 = .ok (.aload_n 0, 1) := by decide +kernel
theorem dL_law_1972 : decode cL_law 1972 = .ok (.iload 4, 2) := by decide +kernel
theorem dL_law_1974 : decode cL_law 1974 = .ok (.iconst 1, 1) := by decide +kernel
theorem dL_law_1975 : decode cL_law 1975 = .ok (.iadd, 1) := by decide +kernel
theorem dL_law_1976 : decode cL_law 1976 = .ok (.iaload, 1) := by decide +kernel
theorem dL_law_1977 : decode cL_law 1977 = .ok (.invokevirtual 288, 3) := by decide +kernel
theorem dL_law_1980 : decode cL_law 1980 = .ok (.istore 6, 2) := by decide +kernel
theorem dL_law_1982 : decode cL_law 1982 = .ok (.aload_n 2, 1) := by decide +kernel
theorem dL_law_1983 : decode cL_law 1983 = .ok (.invokevirtual 105, 3) := by decide +kernel
theorem dL_law_1986 : decode cL_law 1986 = .ok (.iload 5, 2) := by decide +kernel
theorem dL_law_1988 : decode cL_law 1988 = .ok (.if_icmp .eq 5, 3) := by decide +kernel
theorem dL_law_1991 : decode cL_law 1991 = .ok (.iconst 0, 1) := by decide +kernel
theorem dL_law_1992 : decode cL_law 1992 = .ok (.ireturn, 1) := by decide +kernel
theorem dL_law_1993 : decode cL_law 1993 = .ok (.iload 5, 2) := by decide +kernel
theorem dL_law_1995 : decode cL_law 1995 = .ok (.ifCond .ne 15, 3) := by decide +kernel
theorem dL_law_1998 : decode cL_law 1998 = .ok (.aload_n 3, 1) := by decide +kernel
theorem dL_law_1999 : decode cL_law 1999 = .ok (.iconst 0, 1) := by decide +kernel
theorem dL_law_2000 : decode cL_law 2000 = .ok (.laload, 1) := by decide +kernel
theorem dL_law_2001 : decode cL_law 2001 = .ok (.iload 6, 2) := by decide +kernel
theorem dL_law_2003 : decode cL_law 2003 = .ok (.i2l, 1) := by decide +kernel
theorem dL_law_2004 : decode cL_law 2004 = .ok (.lcmp, 1) := by decide +kernel
theorem dL_law_2005 : decode cL_law 2005 = .ok (.ifCond .eq 5, 3) := by decide +kernel
theorem dL_law_2008 : decode cL_law 2008 = .ok (.iconst 0, 1) := by decide +kernel
theorem dL_law_2009 : decode cL_law 2009 = .ok (.ireturn, 1) := by decide +kernel
theorem dL_law_2010 : decode cL_law 2010 = .ok (.goto 326, 3) := by decide +kernel
theorem dL_law_2013 : decode cL_law 2013 = .ok (.aload_n 1, 1) := by decide +kernel
theorem dL_law_2014 : decode cL_law 2014 = .ok (.aload_n 0, 1) := by decide +kernel
theorem dL_law_2015 : decode cL_law 2015 = .ok (.iload 4, 2) := by decide +kernel
theorem dL_law_2017 : decode cL_law 2017 = .ok (.iconst 1, 1) := by decide +kernel
theorem dL_law_2018 : decode cL_law 2018 = .ok (.iadd, 1) := by decide +kernel
theorem dL_law_2019 : decode cL_law 2019 = .ok (.iaload, 1) := by decide +kernel
theorem dL_law_2020 : decode cL_law 2020 = .ok (.aload_n 0, 1) := by decide +kernel
theorem dL_law_2021 : decode cL_law 2021 = .ok (.iload 4, 2) := by decide +kernel
theorem dL_law_2023 : decode cL_law 2023 = .ok (.iconst 2, 1) := by decide +kernel
theorem dL_law_2024 : decode cL_law 2024 = .ok (.iadd, 1) := by decide +kernel
theorem dL_law_2025 : decode cL_law 2025 = .ok (.iaload, 1) := by decide +kernel
theorem dL_law_2026 : decode cL_law 2026 = .ok (.aload_n 3, 1) := by decide +kernel
theorem dL_law_2027 : decode cL_law 2027 = .ok (.invokestatic 289, 3) := by decide +kernel
theorem dL_law_2030 : decode cL_law 2030 = .ok (.istore 5, 2) := by decide +kernel
theorem dL_law_2032 : decode cL_law 2032 = .ok (.aload_n 2, 1) := by decide +kernel
theorem dL_law_2033 : decode cL_law 2033 = .ok (.aload_n 0, 1) := by decide +kernel
theorem dL_law_2034 : decode cL_law 2034 = .ok (.iload 4, 2) := by decide +kernel
theorem dL_law_2036 : decode cL_law 2036 = .ok (.iconst 1, 1) := by decide +kernel
theorem dL_law_2037 : decode cL_law 2037 = .ok (.iadd, 1) := by decide +kernel
theorem dL_law_2038 : decode cL_law 2038 = .ok (.iaload, 1) := by decide +kernel
theorem dL_law_2039 : decode cL_law 2039 = .ok (.aload_n 0, 1) := by decide +kernel
theorem dL_law_2040 : decode cL_law 2040 = .ok (.iload 4, 2) := by decide +kernel
theorem dL_law_2042 : decode cL_law 2042 = .ok (.iconst 2, 1) := by decide +kernel
theorem dL_law_2043 : decode cL_law 2043 = .ok (.iadd, 1) := by decide +kernel
theorem dL_law_2044 : decode cL_law 2044 = .ok (.iaload, 1) := by decide +kernel
theorem dL_law_2045 : decode cL_law 2045 = .ok (.invokevirtual 291, 3) := by decide +kernel
theorem dL_law_2048 : decode cL_law 2048 = .ok (.istore 6, 2) := by decide +kernel
theorem dL_law_2050 : decode cL_law 2050 = .ok (.aload_n 2, 1) := by decide +kernel
theorem dL_law_2051 : decode cL_law 2051 = .ok (.invokevirtual 105, 3) := by decide +kernel
theorem dL_law_2054 : decode cL_law 2054 = .ok (.iload 5, 2) := by decide +kernel
theorem dL_law_2056 : decode cL_law 2056 = .ok (.if_icmp .eq 5, 3) := by decide +kernel
theorem dL_law_2059 : decode cL_law 2059 = .ok (.iconst 0, 1) := by decide +kernel
theorem dL_law_2060 : decode cL_law 2060 = .ok (.ireturn, 1) := by decide +kernel
theorem dL_law_2061 : decode cL_law 2061 = .ok (.iload 5, 2) := by decide +kernel
theorem dL_law_2063 : decode cL_law 2063 = .ok (.ifCond .ne 15, 3) := by decide +kernel
theorem dL_law_2066 : decode cL_law 2066 = .ok (.aload_n 3, 1) := by decide +kernel
theorem dL_law_2067 : decode cL_law 2067 = .ok (.iconst 0, 1) := by decide +kernel
theorem dL_law_2068 : decode cL_law 2068 = .ok (.laload, 1) := by decide +kernel
theorem dL_law_2069 : decode cL_law 2069 = .ok (.iload 6, 2) := by decide +kernel
theorem dL_law_2071 : decode cL_law 2071 = .ok (.i2l, 1) := by decide +kernel
theorem dL_law_2072 : decode cL_law 2072 = .ok (.lcmp, 1) := by decide +kernel
theorem dL_law_2073 : decode cL_law 2073 = .ok (.ifCond .eq 5, 3) := by decide +kernel
theorem dL_law_2076 : decode cL_law 2076 = .ok (.iconst 0, 1) := by decide +kernel
theorem dL_law_2077 : decode cL_law 2077 = .ok (.ireturn, 1) := by decide +kernel
theorem dL_law_2078 : decode cL_law 2078 = .ok (.goto 258, 3) := by decide +kernel
theorem dL_law_2081 : decode cL_law 2081 = .ok (.aload_n 1, 1) := by decide +kernel
theorem dL_law_2082 : decode cL_law 2082 = .ok (.aload_n 0, 1) := by decide +kernel
theorem dL_law_2083 : decode cL_law 2083 = .ok (.iload 4, 2) := by decide +kernel
theorem dL_law_2085 : decode cL_law 2085 = .ok (.iconst 1, 1) := by decide +kernel
theorem dL_law_2086 : decode cL_law 2086 = .ok (.iadd, 1) := by decide +kernel
theorem dL_law_2087 : decode cL_law 2087 = .ok (.iaload, 1) := by decide +kernel
theorem dL_law_2088 : decode cL_law 2088 = .ok (.aload_n 3, 1) := by decide +kernel
theorem dL_law_2089 : decode cL_law 2089 = .ok (.invokestatic 292, 3) := by decide +kernel
theorem dL_law_2092 : decode cL_law 2092 = .ok (.istore 5, 2) := by decide +kernel
theorem dL_law_2094 : decode cL_law 2094 = .ok (.aload_n 2, 1) := by decide +kernel
theorem dL_law_2095 : decode cL_law 2095 = .ok (.aload_n 0, 1) := by decide +kernel
theorem dL_law_2096 : decode cL_law 2096 = .ok (.iload 4, 2) := by decide +kernel
theorem dL_law_2098 : decode cL_law 2098 = .ok (.iconst 1, 1) := by decide +kernel
theorem dL_law_2099 : decode cL_law 2099 = .ok (.iadd, 1) := by decide +kernel
theorem dL_law_2100 : decode cL_law 2100 = .ok (.iaload, 1) := by decide +kernel
theorem dL_law_2101 : decode cL_law 2101 = .ok (.invokevirtual 294, 3) := by decide +kernel
theorem dL_law_2104 : decode cL_law 2104 = .ok (.istore 6, 2) := by decide +kernel
theorem dL_law_2106 : decode cL_law 2106 = .ok (.aload_n 2, 1) := by decide +kernel
theorem dL_law_2107 : decode cL_law 2107 = .ok (.invokevirtual 105, 3) := by decide +kernel
theorem dL_law_2110 : decode cL_law 2110 = .ok (.iload 5, 2) := by decide +kernel
theorem dL_law_2112 : decode cL_law 2112 = .ok (.if_icmp .eq 5, 3) := by decide +kernel
theorem dL_law_2115 : decode cL_law 2115 = .ok (.iconst 0, 1) := by decide +kernel
theorem dL_law_2116 : decode cL_law 2116 = .ok (.ireturn, 1) := by decide +kernel
theorem dL_law_2117 : decode cL_law 2117 = .ok (.iload 5, 2) := by decide +kernel
theorem dL_law_2119 : decode cL_law 2119 = .ok (.ifCond .ne 15, 3) := by decide +kernel
theorem dL_law_2122 : decode cL_law 2122 = .ok (.aload_n 3, 1) := by decide +kernel
theorem dL_law_2123 : decode cL_law 2123 = .ok (.iconst 0, 1) := by decide +kernel
theorem dL_law_2124 : decode cL_law 2124 = .ok (.laload, 1) := by decide +kernel
theorem dL_law_2125 : decode cL_law 2125 = .ok (.iload 6, 2) := by decide +kernel
theorem dL_law_2127 : decode cL_law 2127 = .ok (.i2l, 1) := by decide +kernel
theorem dL_law_2128 : decode cL_law 2128 = .ok (.lcmp, 1) := by decide +kernel
theorem dL_law_2129 : decode cL_law 2129 = .ok (.ifCond .eq 5, 3) := by decide +kernel
theorem dL_law_2132 : decode cL_law 2132 = .ok (.iconst 0, 1) := by decide +kernel
theorem dL_law_2133 : decode cL_law 2133 = .ok (.ireturn, 1) := by decide +kernel
theorem dL_law_2134 : decode cL_law 2134 = .ok (.goto 202, 3) := by decide +kernel
theorem dL_law_2137 : decode cL_law 2137 = .ok (.aload_n 1, 1) := by decide +kernel
theorem dL_law_2138 : decode cL_law 2138 = .ok (.aload_n 0, 1) := by decide +kernel
theorem dL_law_2139 : decode cL_law 2139 = .ok (.iload 4, 2) := by decide +kernel
theorem dL_law_2141 : decode cL_law 2141 = .ok (.iconst 1, 1) := by decide +kernel
theorem dL_law_2142 : decode cL_law 2142 = .ok (.iadd, 1) := by decide +kernel
theorem dL_law_2143 : decode cL_law 2143 = .ok (.iaload, 1) := by decide +kernel
theorem dL_law_2144 : decode cL_law 2144 = .ok (.aload_n 0, 1) := by decide +kernel
theorem dL_law_2145 : decode cL_law 2145 = .ok (.iload 4, 2) := by decide +kernel
theorem dL_law_2147 : decode cL_law 2147 = .ok (.iconst 2, 1) := by decide +kernel
theorem dL_law_2148 : decode cL_law 2148 = .ok (.iadd, 1) := by decide +kernel
theorem dL_law_2149 : decode cL_law 2149 = .ok (.iaload, 1) := by decide +kernel
theorem dL_law_2150 : decode cL_law 2150 = .ok (.aload_n 3, 1) := by decide +kernel
theorem dL_law_2151 : decode cL_law 2151 = .ok (.invokestatic 295, 3) := by decide +kernel
theorem dL_law_2154 : decode cL_law 2154 = .ok (.istore 5, 2) := by decide +kernel
theorem dL_law_2156 : decode cL_law 2156 = .ok (.aload_n 2, 1) := by decide +kernel
theorem dL_law_2157 : decode cL_law 2157 = .ok (.aload_n 0, 1) := by decide +kernel
theorem dL_law_2158 : decode cL_law 2158 = .ok (.iload 4, 2) := by decide +kernel
theorem dL_law_2160 : decode cL_law 2160 = .ok (.iconst 1, 1) := by decide +kernel
theorem dL_law_2161 : decode cL_law 2161 = .ok (.iadd, 1) := by decide +kernel
theorem dL_law_2162 : decode cL_law 2162 = .ok (.iaload, 1) := by decide +kernel
theorem dL_law_2163 : decode cL_law 2163 = .ok (.aload_n 0, 1) := by decide +kernel
theorem dL_law_2164 : decode cL_law 2164 = .ok (.iload 4, 2) := by decide +kernel
theorem dL_law_2166 : decode cL_law 2166 = .ok (.iconst 2, 1) := by decide +kernel
theorem dL_law_2167 : decode cL_law 2167 = .ok (.iadd, 1) := by decide +kernel
theorem dL_law_2168 : decode cL_law 2168 = .ok (.iaload, 1) := by decide +kernel
theorem dL_law_2169 : decode cL_law 2169 = .ok (.invokevirtual 297, 3) := by decide +kernel
theorem dL_law_2172 : decode cL_law 2172 = .ok (.istore 6, 2) := by decide +kernel
theorem dL_law_2174 : decode cL_law 2174 = .ok (.aload_n 2, 1) := by decide +kernel
theorem dL_law_2175 : decode cL_law 2175 = .ok (.invokevirtual 105, 3) := by decide +kernel
theorem dL_law_2178 : decode cL_law 2178 = .ok (.iload 5, 2) := by decide +kernel
theorem dL_law_2180 : decode cL_law 2180 = .ok (.if_icmp .eq 5, 3) := by decide +kernel
theorem dL_law_2183 : decode cL_law 2183 = .ok (.iconst 0, 1) := by decide +kernel
theorem dL_law_2184 : decode cL_law 2184 = .ok (.ireturn, 1) := by decide +kernel
theorem dL_law_2185 : decode cL_law 2185 = .ok (.iload 5, 2) := by decide +kernel
theorem dL_law_2187 : decode cL_law 2187 = .ok (.ifCond .ne 15, 3) := by decide +kernel
theorem dL_law_2190 : decode cL_law 2190 = .ok (.aload_n 3, 1) := by decide +kernel
theorem dL_law_2191 : decode cL_law 2191 = .ok (.iconst 0, 1) := by decide +kernel
theorem dL_law_2192 : decode cL_law 2192 = .ok (.laload, 1) := by decide +kernel
theorem dL_law_2193 : decode cL_law 2193 = .ok (.iload 6, 2) := by decide +kernel
theorem dL_law_2195 : decode cL_law 2195 = .ok (.i2l, 1) := by decide +kernel
theorem dL_law_2196 : decode cL_law 2196 = .ok (.lcmp, 1) := by decide +kernel
theorem dL_law_2197 : decode cL_law 2197 = .ok (.ifCond .eq 5, 3) := by decide +kernel
theorem dL_law_2200 : decode cL_law 2200 = .ok (.iconst 0, 1) := by decide +kernel
theorem dL_law_2201 : decode cL_law 2201 = .ok (.ireturn, 1) := by decide +kernel
theorem dL_law_2202 : decode cL_law 2202 = .ok (.goto 134, 3) := by decide +kernel
theorem dL_law_2205 : decode cL_law 2205 = .ok (.aload_n 1, 1) := by decide +kernel
theorem dL_law_2206 : decode cL_law 2206 = .ok (.aload_n 0, 1) := by decide +kernel
theorem dL_law_2207 : decode cL_law 2207 = .ok (.iload 4, 2) := by decide +kernel
theorem dL_law_2209 : decode cL_law 2209 = .ok (.iconst 1, 1) := by decide +kernel
theorem dL_law_2210 : decode cL_law 2210 = .ok (.iadd, 1) := by decide +kernel
theorem dL_law_2211 : decode cL_law 2211 = .ok (.iaload, 1) := by decide +kernel
theorem dL_law_2212 : decode cL_law 2212 = .ok (.aload_n 3, 1) := by decide +kernel
theorem dL_law_2213 : decode cL_law 2213 = .ok (.invokestatic 298, 3) := by decide +kernel
theorem dL_law_2216 : decode cL_law 2216 = .ok (.istore 5, 2) := by decide +kernel
theorem dL_law_2218 : decode cL_law 2218 = .ok (.aload_n 2, 1) := by decide +kernel
theorem dL_law_2219 : decode cL_law 2219 = .ok (.aload_n 0, 1) := by decide +kernel
theorem dL_law_2220 : decode cL_law 2220 = .ok (.iload 4, 2) := by decide +kernel
theorem dL_law_2222 : decode cL_law 2222 = .ok (.iconst 1, 1) := by decide +kernel
theorem dL_law_2223 : decode cL_law 2223 = .ok (.iadd, 1) := by decide +kernel
theorem dL_law_2224 : decode cL_law 2224 = .ok (.iaload, 1) := by decide +kernel
theorem dL_law_2225 : decode cL_law 2225 = .ok (.invokevirtual 300, 3) := by decide +kernel
theorem dL_law_2228 : decode cL_law 2228 = .ok (.istore 6, 2) := by decide +kernel
theorem dL_law_2230 : decode cL_law 2230 = .ok (.aload_n 2, 1) := by decide +kernel
theorem dL_law_2231 : decode cL_law 2231 = .ok (.invokevirtual 105, 3) := by decide +kernel
theorem dL_law_2234 : decode cL_law 2234 = .ok (.iload 5, 2) := by decide +kernel
theorem dL_law_2236 : decode cL_law 2236 = .ok (.if_icmp .eq 5, 3) := by decide +kernel
theorem dL_law_2239 : decode cL_law 2239 = .ok (.iconst 0, 1) := by decide +kernel
theorem dL_law_2240 : decode cL_law 2240 = .ok (.ireturn, 1) := by decide +kernel
theorem dL_law_2241 : decode cL_law 2241 = .ok (.iload 5, 2) := by decide +kernel
theorem dL_law_2243 : decode cL_law 2243 = .ok (.ifCond .ne 22, 3) := by decide +kernel
theorem dL_law_2246 : decode cL_law 2246 = .ok (.aload_n 3, 1) := by decide +kernel
theorem dL_law_2247 : decode cL_law 2247 = .ok (.iconst 0, 1) := by decide +kernel
theorem dL_law_2248 : decode cL_law 2248 = .ok (.laload, 1) := by decide +kernel
theorem dL_law_2249 : decode cL_law 2249 = .ok (.iload 6, 2) := by decide +kernel
theorem dL_law_2251 : decode cL_law 2251 = .ok (.ifCond .eq 7, 3) := by decide +kernel
theorem dL_law_2254 : decode cL_law 2254 = .ok (.lconst 1, 1) := by decide +kernel
theorem dL_law_2255 : decode cL_law 2255 = .ok (.goto 4, 3) := by decide +kernel
theorem dL_law_2258 : decode cL_law 2258 = .ok (.lconst 0, 1) := by decide +kernel
theorem dL_law_2259 : decode cL_law 2259 = .ok (.lcmp, 1) := by decide +kernel
theorem dL_law_2260 : decode cL_law 2260 = .ok (.ifCond .eq 5, 3) := by decide +kernel
theorem dL_law_2263 : decode cL_law 2263 = .ok (.iconst 0, 1) := by decide +kernel
theorem dL_law_2264 : decode cL_law 2264 = .ok (.ireturn, 1) := by decide +kernel
theorem dL_law_2265 : decode cL_law 2265 = .ok (.goto 71, 3) := by decide +kernel
theorem dL_law_2268 : decode cL_law 2268 = .ok (.aload_n 1, 1) := by decide +kernel
theorem dL_law_2269 : decode cL_law 2269 = .ok (.invokevirtual 301, 3) := by decide +kernel
theorem dL_law_2272 : decode cL_law 2272 = .ok (.aload_n 2, 1) := by decide +kernel
theorem dL_law_2273 : decode cL_law 2273 = .ok (.invokevirtual 304, 3) := by decide +kernel
theorem dL_law_2276 : decode cL_law 2276 = .ok (.if_icmp .eq 60, 3) := by decide +kernel
theorem dL_law_2279 : decode cL_law 2279 = .ok (.iconst 0, 1) := by decide +kernel
theorem dL_law_2280 : decode cL_law 2280 = .ok (.ireturn, 1) := by decide +kernel
theorem dL_law_2281 : decode cL_law 2281 = .ok (.aload_n 1, 1) := by decide +kernel
theorem dL_law_2282 : decode cL_law 2282 = .ok (.invokevirtual 305, 3) := by decide +kernel
theorem dL_law_2285 : decode cL_law 2285 = .ok (.dstore 5, 2) := by decide +kernel
theorem dL_law_2287 : decode cL_law 2287 = .ok (.aload_n 2, 1) := by decide +kernel
theorem dL_law_2288 : decode cL_law 2288 = .ok (.invokevirtual 309, 3) := by decide +kernel
theorem dL_law_2291 : decode cL_law 2291 = .ok (.dstore 7, 2) := by decide +kernel
theorem dL_law_2293 : decode cL_law 2293 = .ok (.dload 5, 2) := by decide +kernel
theorem dL_law_2295 : decode cL_law 2295 = .ok (.dload 7, 2) := by decide +kernel
theorem dL_law_2297 : decode cL_law 2297 = .ok (.dcmp .l, 1) := by decide +kernel
theorem dL_law_2298 : decode cL_law 2298 = .ok (.ifCond .eq 21, 3) := by decide +kernel
theorem dL_law_2301 : decode cL_law 2301 = .ok (.dload 5, 2) := by decide +kernel
theorem dL_law_2303 : decode cL_law 2303 = .ok (.dload 5, 2) := by decide +kernel
theorem dL_law_2305 : decode cL_law 2305 = .ok (.dcmp .l, 1) := by decide +kernel
theorem dL_law_2306 : decode cL_law 2306 = .ok (.ifCond .eq 11, 3) := by decide +kernel
theorem dL_law_2309 : decode cL_law 2309 = .ok (.dload 7, 2) := by decide +kernel
theorem dL_law_2311 : decode cL_law 2311 = .ok (.dload 7, 2) := by decide +kernel
theorem dL_law_2313 : decode cL_law 2313 = .ok (.dcmp .l, 1) := by decide +kernel
theorem dL_law_2314 : decode cL_law 2314 = .ok (.ifCond .ne 5, 3) := by decide +kernel
theorem dL_law_2317 : decode cL_law 2317 = .ok (.iconst 0, 1) := by decide +kernel
theorem dL_law_2318 : decode cL_law 2318 = .ok (.ireturn, 1) := by decide +kernel
theorem dL_law_2319 : decode cL_law 2319 = .ok (.goto 17, 3) := by decide +kernel
theorem dL_law_2322 : decode cL_law 2322 = .ok (.aload_n 1, 1) := by decide +kernel
theorem dL_law_2323 : decode cL_law 2323 = .ok (.invokevirtual 310, 3) := by decide +kernel
theorem dL_law_2326 : decode cL_law 2326 = .ok (.aload_n 2, 1) := by decide +kernel
theorem dL_law_2327 : decode cL_law 2327 = .ok (.invokevirtual 314, 3) := by decide +kernel
theorem dL_law_2330 : decode cL_law 2330 = .ok (.lcmp, 1) := by decide +kernel
theorem dL_law_2331 : decode cL_law 2331 = .ok (.ifCond .eq 5, 3) := by decide +kernel
theorem dL_law_2334 : decode cL_law 2334 = .ok (.iconst 0, 1) := by decide +kernel
theorem dL_law_2335 : decode cL_law 2335 = .ok (.ireturn, 1) := by decide +kernel
theorem dL_law_2336 : decode cL_law 2336 = .ok (.iinc 4 6, 3) := by decide +kernel
theorem dL_law_2339 : decode cL_law 2339 = .ok (.goto (-2316), 3) := by decide +kernel
theorem dL_law_2342 : decode cL_law 2342 = .ok (.iconst 1, 1) := by decide +kernel
theorem dL_law_2343 : decode cL_law 2343 = .ok (.ireturn, 1) := by decide +kernel
