theorem dX5_read_122 : decode cX5_read 122 = .ok (.ireturn, 1) := by decide +kernel
theorem dX5_read_123 : decode cX5_read 123 = .ok (.aload_n 0, 1) := by decide +kernel
theorem dX5_read_124 : decode cX5_read 124 = .ok (.getfield 37, 3) := by decide +kernel
theorem dX5_read_127 : decode cX5_read 127 = .ok (.sipush 256, 3) := by decide +kernel
theorem dX5_read_130 : decode cX5_read 130 = .ok (.idiv, 1) := by decide +kernel
theorem dX5_read_131 : decode cX5_read 131 = .ok (.sipush 256, 3) := by decide +kernel
theorem dX5_read_134 : decode cX5_read 134 = .ok (.irem, 1) := by decide +kernel
theorem dX5_read_135 : decode cX5_read 135 = .ok (.ireturn, 1) := by decide +kernel
theorem dX5_read_136 : decode cX5_read 136 = .ok (.aload_n 0, 1) := by decide +kernel
theorem dX5_read_137 : decode cX5_read 137 = .ok (.getfield 40, 3) := by decide +kernel
theorem dX5_read_140 : decode cX5_read 140 = .ok (.ireturn, 1) := by decide +kernel
theorem dX5_read_141 : decode cX5_read 141 = .ok (.aload_n 0, 1) := by decide +kernel
theorem dX5_read_142 : decode cX5_read 142 = .ok (.invokevirtual 85, 3) := by decide +kernel
theorem dX5_read_145 : decode cX5_read 145 = .ok (.ireturn, 1) := by decide +kernel
theorem dX5_read_146 : decode cX5_read 146 = .ok (.aload_n 0, 1) := by decide +kernel
theorem dX5_read_147 : decode cX5_read 147 = .ok (.getfield 46, 3) := by decide +kernel
theorem dX5_read_150 : decode cX5_read 150 = .ok (.sipush 256, 3) := by decide +kernel
theorem dX5_read_153 : decode cX5_read 153 = .ok (.irem, 1) := by decide +kernel
theorem dX5_read_154 : decode cX5_read 154 = .ok (.ireturn, 1) := by decide +kernel
theorem dX5_read_155 : decode cX5_read 155 = .ok (.aload_n 0, 1) := by decide +kernel
theorem dX5_read_156 : decode cX5_read 156 = .ok (.getfield 46, 3) := by decide +kernel
theorem dX5_read_159 : decode cX5_read 159 = .ok (.sipush 256, 3) := by decide +kernel
theorem dX5_read_162 : decode cX5_read 162 = .ok (.idiv, 1) := by decide +kernel
theorem dX5_read_163 : decode cX5_read 163 = .ok (.ireturn, 1) := by decide +kernel
theorem dX5_read_164 : decode cX5_read 164 = .ok (.aload_n 0, 1) := by decide +kernel
theorem dX5_read_165 : decode cX5_read 165 = .ok (.getfield 49, 3) := by decide +kernel
theorem dX5_read_168 : decode cX5_read 168 = .ok (.sipush 256, 3) := by decide +kernel
theorem dX5_read_171 : decode cX5_read 171 = .ok (.irem, 1) := by decide +kernel
theorem dX5_read_172 : decode cX5_read 172 = .ok (.ireturn, 1) := by decide +kernel
theorem dX5_read_173 : decode cX5_read 173 = .ok (.aload_n 0, 1) := by decide +kernel
theorem dX5_read_174 : decode cX5_read 174 = .ok (.getfield 49, 3) := by decide +kernel
theorem dX5_read_177 : decode cX5_read 177 = .ok (.sipush 256, 3) := by decide +kernel
theorem dX5_read_180 : decode cX5_read 180 = .ok (.idiv, 1) := by decide +kernel
theorem dX5_read_181 : decode cX5_read 181 = .ok (.ireturn, 1) := by decide +kernel
theorem dX5_read_182 : decode cX5_read 182 = .ok (.iload_n 2, 1) := by decide +kernel
theorem dX5_read_183 : decode cX5_read 183 = .ok (.sipush 256, 3) := by decide +kernel
theorem dX5_read_186 : decode cX5_read 186 = .ok (.irem, 1) := by decide +kernel
theorem dX5_read_187 : decode cX5_read 187 = .ok (.ireturn, 1) := by decide +kernel
theorem dX5_read_188 : decode cX5_read 188 = .ok (.iconst 0, 1) := by decide +kernel
theorem dX5_read_189 : decode cX5_read 189 = .ok (.ireturn, 1) := by decide +kernel
theorem dX5_write_0 : decode cX5_write 0 = .ok (.iload_n 1, 1) := by decide +kernel
theorem dX5_write_1 : decode cX5_write 1 = .ok (.tableswitch 282 0 14 #[75, 86, 97, 112, 282, 282, 140, 156, 172, 198, 210, 226, 242, 258, 274], 75) := by decide +kernel
theorem dX5_write_76 : decode cX5_write 76 = .ok (.aload_n 0, 1) := by decide +kernel
theorem dX5_write_77 : decode cX5_write 77 = .ok (.iload_n 2, 1) := by decide +kernel
theorem dX5_write_78 : decode cX5_write 78 = .ok (.bipush 8, 2) := by decide +kernel
theorem dX5_write_80 : decode cX5_write 80 = .ok (.irem, 1) := by decide +kernel
theorem dX5_write_81 : decode cX5_write 81 = .ok (.putfield 18, 3) := by decide +kernel
theorem dX5_write_84 : decode cX5_write 84 = .ok (.goto 199, 3) := by decide +kernel
theorem dX5_write_87 : decode cX5_write 87 = .ok (.aload_n 0, 1) := by decide +kernel
theorem dX5_write_88 : decode cX5_write 88 = .ok (.iload_n 2, 1) := by decide +kernel
theorem dX5_write_89 : decode cX5_write 89 = .ok (.bipush 16, 2) := by decide +kernel
theorem dX5_write_91 : decode cX5_write 91 = .ok (.irem, 1) := by decide +kernel
theorem dX5_write_92 : decode cX5_write 92 = .ok (.putfield 22, 3) := by decide +kernel
theorem dX5_write_95 : decode cX5_write 95 = .ok (.goto 188, 3) := by decide +kernel
theorem dX5_write_98 : decode cX5_write 98 = .ok (.aload_n 0, 1) := by decide +kernel
theorem dX5_write_99 : decode cX5_write 99 = .ok (.dup, 1) := by decide +kernel
theorem dX5_write_100 : decode cX5_write 100 = .ok (.getfield 25, 3) := by decide +kernel
theorem dX5_write_103 : decode cX5_write 103 = .ok (.iload_n 2, 1) := by decide +kernel
theorem dX5_write_104 : decode cX5_write 104 = .ok (.iconst (-1), 1) := by decide +kernel
theorem dX5_write_105 : decode cX5_write 105 = .ok (.ixor, 1) := by decide +kernel
theorem dX5_write_106 : decode cX5_write 106 = .ok (.iand, 1) := by decide +kernel
theorem dX5_write_107 : decode cX5_write 107 = .ok (.putfield 25, 3) := by decide +kernel
theorem dX5_write_110 : decode cX5_write 110 = .ok (.goto 173, 3) := by decide +kernel
theorem dX5_write_113 : decode cX5_write 113 = .ok (.aload_n 0, 1) := by decide +kernel
theorem dX5_write_114 : decode cX5_write 114 = .ok (.getfield 15, 3) := by decide +kernel
theorem dX5_write_117 : decode cX5_write 117 = .ok (.aload_n 0, 1) := by decide +kernel
theorem dX5_write_118 : decode cX5_write 118 = .ok (.getfield 31, 3) := by decide +kernel
theorem dX5_write_121 : decode cX5_write 121 = .ok (.bipush 40, 2) := by decide +kernel
theorem dX5_write_123 : decode cX5_write 123 = .ok (.irem, 1) := by decide +kernel
theorem dX5_write_124 : decode cX5_write 124 = .ok (.iload_n 2, 1) := by decide +kernel
theorem dX5_write_125 : decode cX5_write 125 = .ok (.invokestatic 61, 3) := by decide +kernel
theorem dX5_write_128 : decode cX5_write 128 = .ok (.aload_n 0, 1) := by decide +kernel
theorem dX5_write_129 : decode cX5_write 129 = .ok (.dup, 1) := by decide +kernel
theorem dX5_write_130 : decode cX5_write 130 = .ok (.getfield 31, 3) := by decide +kernel
theorem dX5_write_133 : decode cX5_write 133 = .ok (.iconst 1, 1) := by decide +kernel
theorem dX5_write_134 : decode cX5_write 134 = .ok (.iadd, 1) := by decide +kernel
theorem dX5_write_135 : decode cX5_write 135 = .ok (.putfield 31, 3) := by decide +kernel
theorem dX5_write_138 : decode cX5_write 138 = .ok (.goto 145, 3) := by decide +kernel
theorem dX5_write_141 : decode cX5_write 141 = .ok (.aload_n 0, 1) := by decide +kernel
theorem dX5_write_142 : decode cX5_write 142 = .ok (.aload_n 0, 1) := by decide +kernel
theorem dX5_write_143 : decode cX5_write 143 = .ok (.aload_n 0, 1) := by decide +kernel
theorem dX5_write_144 : decode cX5_write 144 = .ok (.getfield 34, 3) := by decide +kernel
theorem dX5_write_147 : decode cX5_write 147 = .ok (.iload_n 2, 1) := by decide +kernel
theorem dX5_write_148 : decode cX5_write 148 = .ok (.invokevirtual 88, 3) := by decide +kernel
theorem dX5_write_151 : decode cX5_write 151 = .ok (.putfield 34, 3) := by decide +kernel
theorem dX5_write_154 : decode cX5_write 154 = .ok (.goto 129, 3) := by decide +kernel
theorem dX5_write_157 : decode cX5_write 157 = .ok (.aload_n 0, 1) := by decide +kernel
theorem dX5_write_158 : decode cX5_write 158 = .ok (.aload_n 0, 1) := by decide +kernel
theorem dX5_write_159 : decode cX5_write 159 = .ok (.aload_n 0, 1) := by decide +kernel
theorem dX5_write_160 : decode cX5_write 160 = .ok (.getfield 34, 3) := by decide +kernel
theorem dX5_write_163 : decode cX5_write 163 = .ok (.iload_n 2, 1) := by decide +kernel
theorem dX5_write_164 : decode cX5_write 164 = .ok (.invokevirtual 92, 3) := by decide +kernel
theorem dX5_write_167 : decode cX5_write 167 = .ok (.putfield 34, 3) := by decide +kernel
theorem dX5_write_170 : decode cX5_write 170 = .ok (.goto 113, 3) := by decide +kernel
theorem dX5_write_173 : decode cX5_write 173 = .ok (.iload_n 2, 1) := by decide +kernel
theorem dX5_write_174 : decode cX5_write 174 = .ok (.iconst 1, 1) := by decide +kernel
theorem dX5_write_175 : decode cX5_write 175 = .ok (.iand, 1) := by decide +kernel
theorem dX5_write_176 : decode cX5_write 176 = .ok (.aload_n 0, 1) := by decide +kernel
theorem dX5_write_177 : decode cX5_write 177 = .ok (.getfield 40, 3) := by decide +kernel
theorem dX5_write_180 : decode cX5_write 180 = .ok (.iconst 1, 1) := by decide +kernel
theorem dX5_write_181 : decode cX5_write 181 = .ok (.iand, 1) := by decide +kernel
theorem dX5_write_182 : decode cX5_write 182 = .ok (.if_icmp .le 7, 3) := by decide +kernel
theorem dX5_write_185 : decode cX5_write 185 = .ok (.aload_n 0, 1) := by decide +kernel
theorem dX5_write_186 : decode cX5_write 186 = .ok (.invokevirtual 95, 3) := by decide +kernel
theorem dX5_write_189 : decode cX5_write 189 = .ok (.aload_n 0, 1) := by decide +kernel
theorem dX5_write_190 : decode cX5_write 190 = .ok (.iload_n 2, 1) := by decide +kernel
theorem dX5_write_191 : decode cX5_write 191 = .ok (.iconst 4, 1) := by decide +kernel
theorem dX5_write_192 : decode cX5_write 192 = .ok (.irem, 1) := by decide +kernel
theorem dX5_write_193 : decode cX5_write 193 = .ok (.putfield 40, 3) := by decide +kernel
theorem dX5_write_196 : decode cX5_write 196 = .ok (.goto 87, 3) := by decide +kernel
theorem dX5_write_199 : decode cX5_write 199 = .ok (.aload_n 0, 1) := by decide +kernel
theorem dX5_write_200 : decode cX5_write 200 = .ok (.iload_n 2, 1) := by decide +kernel
theorem dX5_write_201 : decode cX5_write 201 = .ok (.sipush 256, 3) := by decide +kernel
theorem dX5_write_204 : decode cX5_write 204 = .ok (.iadd, 1) := by decide +kernel
theorem dX5_write_205 : decode cX5_write 205 = .ok (.putfield 43, 3) := by decide +kernel
theorem dX5_write_208 : decode cX5_write 208 = .ok (.goto 75, 3) := by decide +kernel
theorem dX5_write_211 : decode cX5_write 211 = .ok (.aload_n 0, 1) := by decide +kernel
theorem dX5_write_212 : decode cX5_write 212 = .ok (.aload_n 0, 1) := by decide +kernel
theorem dX5_write_213 : decode cX5_write 213 = .ok (.aload_n 0, 1) := by decide +kernel
theorem dX5_write_214 : decode cX5_write 214 = .ok (.getfield 46, 3) := by decide +kernel
theorem dX5_write_217 : decode cX5_write 217 = .ok (.iload_n 2, 1) := by decide +kernel
theorem dX5_write_218 : decode cX5_write 218 = .ok (.invokevirtual 88, 3) := by decide +kernel
theorem dX5_write_221 : decode cX5_write 221 = .ok (.putfield 46, 3) := by decide +kernel
theorem dX5_write_224 : decode cX5_write 224 = .ok (.goto 59, 3) := by decide +kernel
theorem dX5_write_227 : decode cX5_write 227 = .ok (.aload_n 0, 1) := by decide +kernel
theorem dX5_write_228 : decode cX5_write 228 = .ok (.aload_n 0, 1) := by decide +kernel
theorem dX5_write_229 : decode cX5_write 229 = .ok (.aload_n 0, 1) := by decide +kernel
theorem dX5_write_230 : decode cX5_write 230 = .ok (.getfield 46, 3) := by decide +kernel
theorem dX5_write_233 : decode cX5_write 233 = .ok (.iload_n 2, 1) := by decide +kernel
theorem dX5_write_234 : decode cX5_write 234 = .ok (.invokevirtual 92, 3) := by decide +kernel
theorem dX5_write_237 : decode cX5_write 237 = .ok (.putfield 46, 3) := by decide +kernel
theorem dX5_write_240 : decode cX5_write 240 = .ok (.goto 43, 3) := by decide +kernel
theorem dX5_write_243 : decode cX5_write 243 = .ok (.aload_n 0, 1) := by decide +kernel
theorem dX5_write_244 : decode cX5_write 244 = .ok (.aload_n 0, 1) := by decide +kernel
theorem dX5_write_245 : decode cX5_write 245 = .ok (.aload_n 0, 1) := by decide +kernel
theorem dX5_write_246 : decode cX5_write 246 = .ok (.getfield 49, 3) := by decide +kernel
theorem dX5_write_249 : decode cX5_write 249 = .ok (.iload_n 2, 1) := by decide +kernel
theorem dX5_write_250 : decode cX5_write 250 = .ok (.invokevirtual 88, 3) := by decide +kernel
theorem dX5_write_253 : decode cX5_write 253 = .ok (.putfield 49, 3) := by decide +kernel
theorem dX5_write_256 : decode cX5_write 256 = .ok (.goto 27, 3) := by decide +kernel
theorem dX5_write_259 : decode cX5_write 259 = .ok (.aload_n 0, 1) := by decide +kernel
theorem dX5_write_260 : decode cX5_write 260 = .ok (.aload_n 0, 1) := by decide +kernel
theorem dX5_write_261 : decode cX5_write 261 = .ok (.aload_n 0, 1) := by decide +kernel
theorem dX5_write_262 : decode cX5_write 262 = .ok (.getfield 49, 3) := by decide +kernel
theorem dX5_write_265 : decode cX5_write 265 = .ok (.iload_n 2, 1) := by decide +kernel
theorem dX5_write_266 : decode cX5_write 266 = .ok (.invokevirtual 92, 3) := by decide +kernel
theorem dX5_write_269 : decode cX5_write 269 = .ok (.putfield 49, 3) := by decide +kernel
theorem dX5_write_272 : decode cX5_write 272 = .ok (.goto 11, 3) := by decide +kernel
theorem dX5_write_275 : decode cX5_write 275 = .ok (.aload_n 0, 1) := by decide +kernel
theorem dX5_write_276 : decode cX5_write 276 = .ok (.iload_n 2, 1) := by decide +kernel
theorem dX5_write_277 : decode cX5_write 277 = .ok (.putfield 52, 3) := by decide +kernel
theorem dX5_write_280 : decode cX5_write 280 = .ok (.goto 3, 3) := by decide +kernel
theorem dX5_write_283 : decode cX5_write 283 = .ok (.return_, 1) := by decide +kernel
theorem dX5_firstInput_0 : decode cX5_firstInput 0 = .ok (.aload_n 0, 1) := by decide +kernel
theorem dX5_firstInput_1 : decode cX5_firstInput 1 = .ok (.getfield 28, 3) := by decide +kernel
theorem dX5_firstInput_4 : decode cX5_firstInput 4 = .ok (.ifCond .eq 11, 3) := by decide +kernel
theorem dX5_firstInput_7 : decode cX5_firstInput 7 = .ok (.aload_n 0, 1) := by decide +kernel
theorem dX5_firstInput_8 : decode cX5_firstInput 8 = .ok (.getfield 9, 3) := by decide +kernel
theorem dX5_firstInput_11 : decode cX5_firstInput 11 = .ok (.arraylength, 1) := by decide +kernel
theorem dX5_firstInput_12 : decode cX5_firstInput 12 = .ok (.ifCond .ne 5, 3) := by decide +kernel
theorem dX5_firstInput_15 : decode cX5_firstInput 15 = .ok (.iconst 0, 1) := by decide +kernel
theorem dX5_firstInput_16 : decode cX5_firstInput 16 = .ok (.ireturn, 1) := by decide +kernel
theorem dX5_firstInput_17 : decode cX5_firstInput 17 = .ok (.aload_n 0, 1) := by decide +kernel
theorem dX5_firstInput_18 : decode cX5_firstInput 18 = .ok (.getfield 9, 3) := by decide +kernel
theorem dX5_firstInput_21 : decode cX5_firstInput 21 = .ok (.iconst 0, 1) := by decide +kernel
theorem dX5_firstInput_22 : decode cX5_firstInput 22 = .ok (.iaload, 1) := by decide +kernel
theorem dX5_firstInput_23 : decode cX5_firstInput 23 = .ok (.istore_n 1, 1) := by decide +kernel
theorem dX5_firstInput_24 : decode cX5_firstInput 24 = .ok (.iconst 1, 1) := by decide +kernel
theorem dX5_firstInput_25 : decode cX5_firstInput 25 = .ok (.istore_n 2, 1) := by decide +kernel
theorem dX5_firstInput_26 : decode cX5_firstInput 26 = .ok (.iload_n 2, 1) := by decide +kernel
theorem dX5_firstInput_27 : decode cX5_firstInput 27 = .ok (.aload_n 0, 1) := by decide +kernel
theorem dX5_firstInput_28 : decode cX5_firstInput 28 = .ok (.getfield 9, 3) := by decide +kernel
theorem dX5_firstInput_31 : decode cX5_firstInput 31 = .ok (.arraylength, 1) := by decide +kernel
theorem dX5_firstInput_32 : decode cX5_firstInput 32 = .ok (.if_icmp .ge 23, 3) := by decide +kernel
theorem dX5_firstInput_35 : decode cX5_firstInput 35 = .ok (.aload_n 0, 1) := by decide +kernel
theorem dX5_firstInput_36 : decode cX5_firstInput 36 = .ok (.getfield 9, 3) := by decide +kernel
theorem dX5_firstInput_39 : decode cX5_firstInput 39 = .ok (.iload_n 2, 1) := by decide +kernel
theorem dX5_firstInput_40 : decode cX5_firstInput 40 = .ok (.iconst 1, 1) := by decide +kernel
theorem dX5_firstInput_41 : decode cX5_firstInput 41 = .ok (.isub, 1) := by decide +kernel
theorem dX5_firstInput_42 : decode cX5_firstInput 42 = .ok (.aload_n 0, 1) := by decide +kernel
theorem dX5_firstInput_43 : decode cX5_firstInput 43 = .ok (.getfield 9, 3) := by decide +kernel
theorem dX5_firstInput_46 : decode cX5_firstInput 46 = .ok (.iload_n 2, 1) := by decide +kernel
theorem dX5_firstInput_47 : decode cX5_firstInput 47 = .ok (.iaload, 1) := by decide +kernel
theorem dX5_firstInput_48 : decode cX5_firstInput 48 = .ok (.iastore, 1) := by decide +kernel
theorem dX5_firstInput_49 : decode cX5_firstInput 49 = .ok (.iinc 2 1, 3) := by decide +kernel
theorem dX5_firstInput_52 : decode cX5_firstInput 52 = .ok (.goto (-26), 3) := by decide +kernel
theorem dX5_firstInput_55 : decode cX5_firstInput 55 = .ok (.aload_n 0, 1) := by decide +kernel
theorem dX5_firstInput_56 : decode cX5_firstInput 56 = .ok (.dup, 1) := by decide +kernel
theorem dX5_firstInput_57 : decode cX5_firstInput 57 = .ok (.getfield 28, 3) := by decide +kernel
theorem dX5_firstInput_60 : decode cX5_firstInput 60 = .ok (.iconst 1, 1) := by decide +kernel
theorem dX5_firstInput_61 : decode cX5_firstInput 61 = .ok (.isub, 1) := by decide +kernel
theorem dX5_firstInput_62 : decode cX5_firstInput 62 = .ok (.putfield 28, 3) := by decide +kernel
theorem dX5_firstInput_65 : decode cX5_firstInput 65 = .ok (.iload_n 1, 1) := by decide +kernel
theorem dX5_firstInput_66 : decode cX5_firstInput 66 = .ok (.ireturn, 1) := by decide +kernel
theorem dX5_nextRandom_0 : decode cX5_nextRandom 0 = .ok (.aload_n 0, 1) := by decide +kernel
theorem dX5_nextRandom_1 : decode cX5_nextRandom 1 = .ok (.aload_n 0, 1) := by decide +kernel
theorem dX5_nextRandom_2 : decode cX5_nextRandom 2 = .ok (.getfield 43, 3) := by decide +kernel
theorem dX5_nextRandom_5 : decode cX5_nextRandom 5 = .ok (.iconst 1, 1) := by decide +kernel
theorem dX5_nextRandom_6 : decode cX5_nextRandom 6 = .ok (.iand, 1) := by decide +kernel
theorem dX5_nextRandom_7 : decode cX5_nextRandom 7 = .ok (.ifCond .ne 12, 3) := by decide +kernel
theorem dX5_nextRandom_10 : decode cX5_nextRandom 10 = .ok (.aload_n 0, 1) := by decide +kernel
theorem dX5_nextRandom_11 : decode cX5_nextRandom 11 = .ok (.getfield 43, 3) := by decide +kernel
theorem dX5_nextRandom_14 : decode cX5_nextRandom 14 = .ok (.iconst 2, 1) := by decide +kernel
theorem dX5_nextRandom_15 : decode cX5_nextRandom 15 = .ok (.idiv, 1) := by decide +kernel
theorem dX5_nextRandom_16 : decode cX5_nextRandom 16 = .ok (.goto 12, 3) := by decide +kernel
theorem dX5_nextRandom_19 : decode cX5_nextRandom 19 = .ok (.aload_n 0, 1) := by decide +kernel
theorem dX5_nextRandom_20 : decode cX5_nextRandom 20 = .ok (.getfield 43, 3) := by decide +kernel
theorem dX5_nextRandom_23 : decode cX5_nextRandom 23 = .ok (.iconst 2, 1) := by decide +kernel
theorem dX5_nextRandom_24 : decode cX5_nextRandom 24 = .ok (.idiv, 1) := by decide +kernel
theorem dX5_nextRandom_25 : decode cX5_nextRandom 25 = .ok (.ldc 98, 2) := by decide +kernel
theorem dX5_nextRandom_27 : decode cX5_nextRandom 27 = .ok (.ixor, 1) := by decide +kernel
theorem dX5_nextRandom_28 : decode cX5_nextRandom 28 = .ok (.putfield 43, 3) := by decide +kernel
theorem dX5_nextRandom_31 : decode cX5_nextRandom 31 = .ok (.aload_n 0, 1) := by decide +kernel
theorem dX5_nextRandom_32 : decode cX5_nextRandom 32 = .ok (.getfield 43, 3) := by decide +kernel
theorem dX5_nextRandom_35 : decode cX5_nextRandom 35 = .ok (.sipush 256, 3) := by decide +kernel
theorem dX5_nextRandom_38 : decode cX5_nextRandom 38 = .ok (.irem, 1) := by decide +kernel
theorem dX5_nextRandom_39 : decode cX5_nextRandom 39 = .ok (.ireturn, 1) := by decide +kernel
theorem dX5_withLow_0 : decode cX5_withLow 0 = .ok (.iload_n 1, 1) := by decide +kernel
theorem dX5_withLow_1 : decode cX5_withLow 1 = .ok (.sipush 256, 3) := by decide +kernel
theorem dX5_withLow_4 : decode cX5_withLow 4 = .ok (.idiv, 1) := by decide +kernel
theorem dX5_withLow_5 : decode cX5_withLow 5 = .ok (.sipush 256, 3) := by decide +kernel
theorem dX5_withLow_8 : decode cX5_withLow 8 = .ok (.imul, 1) := by decide +kernel
theorem dX5_withLow_9 : decode cX5_withLow 9 = .ok (.iload_n 2, 1) := by decide +kernel
theorem dX5_withLow_10 : decode cX5_withLow 10 = .ok (.iadd, 1) := by decide +kernel
theorem dX5_withLow_11 : decode cX5_withLow 11 = .ok (.ireturn, 1) := by decide +kernel
theorem dX5_withHigh_0 : decode cX5_withHigh 0 = .ok (.iload_n 2, 1) := by decide +kernel
theorem dX5_withHigh_1 : decode cX5_withHigh 1 = .ok (.sipush 256, 3) := by decide +kernel
theorem dX5_withHigh_4 : decode cX5_withHigh 4 = .ok (.imul, 1) := by decide +kernel
theorem dX5_withHigh_5 : decode cX5_withHigh 5 = .ok (.iload_n 1, 1) := by decide +kernel
theorem dX5_withHigh_6 : decode cX5_withHigh 6 = .ok (.sipush 256, 3) := by decide +kernel
theorem dX5_withHigh_9 : decode cX5_withHigh 9 = .ok (.irem, 1) := by decide +kernel
theorem dX5_withHigh_10 : decode cX5_withHigh 10 = .ok (.iadd, 1) := by decide +kernel
theorem dX5_withHigh_11 : decode cX5_withHigh 11 = .ok (.ireturn, 1) := by decide +kernel
theorem dX5_wind_0 : decode cX5_wind 0 = .ok (.aload_n 0, 1) := by decide +kernel
theorem dX5_wind_1 : decode cX5_wind 1 = .ok (.aload_n 0, 1) := by decide +kernel
theorem dX5_wind_2 : decode cX5_wind 2 = .ok (.getfield 34, 3) := by decide +kernel
theorem dX5_wind_5 : decode cX5_wind 5 = .ok (.ifCond .ne 8, 3) := by decide +kernel
theorem dX5_wind_8 : decode cX5_wind 8 = .ok (.ldc 99, 2) := by decide +kernel
theorem dX5_wind_10 : decode cX5_wind 10 = .ok (.goto 7, 3) := by decide +kernel
theorem dX5_wind_13 : decode cX5_wind 13 = .ok (.aload_n 0, 1) := by decide +kernel
theorem dX5_wind_14 : decode cX5_wind 14 = .ok (.getfield 34, 3) := by decide +kernel
theorem dX5_wind_17 : decode cX5_wind 17 = .ok (.putfield 37, 3) := by decide +kernel
theorem dX5_wind_20 : decode cX5_wind 20 = .ok (.return_, 1) := by decide +kernel
theorem dX5_pass_0 : decode cX5_pass 0 = .ok (.iconst 0, 1) := by decide +kernel
theorem dX5_pass_1 : decode cX5_pass 1 = .ok (.istore_n 2, 1) := by decide +kernel
theorem dX5_pass_2 : decode cX5_pass 2 = .ok (.iload_n 2, 1) := by decide +kernel
theorem dX5_pass_3 : decode cX5_pass 3 = .ok (.iload_n 1, 1) := by decide +kernel
theorem dX5_pass_4 : decode cX5_pass 4 = .ok (.if_icmp .ge 39, 3) := by decide +kernel
theorem dX5_pass_7 : decode cX5_pass 7 = .ok (.aload_n 0, 1) := by decide +kernel
theorem dX5_pass_8 : decode cX5_pass 8 = .ok (.getfield 40, 3) := by decide +kernel
theorem dX5_pass_11 : decode cX5_pass 11 = .ok (.iconst 1, 1) := by decide +kernel
theorem dX5_pass_12 : decode cX5_pass 12 = .ok (.iand, 1) := by decide +kernel
theorem dX5_pass_13 : decode cX5_pass 13 = .ok (.ifCond .eq 30, 3) := by decide +kernel
theorem dX5_pass_16 : decode cX5_pass 16 = .ok (.aload_n 0, 1) := by decide +kernel
theorem dX5_pass_17 : decode cX5_pass 17 = .ok (.dup, 1) := by decide +kernel
theorem dX5_pass_18 : decode cX5_pass 18 = .ok (.getfield 37, 3) := by decide +kernel
theorem dX5_pass_21 : decode cX5_pass 21 = .ok (.iconst 1, 1) := by decide +kernel
theorem dX5_pass_22 : decode cX5_pass 22 = .ok (.isub, 1) := by decide +kernel
theorem dX5_pass_23 : decode cX5_pass 23 = .ok (.putfield 37, 3) := by decide +kernel
theorem dX5_pass_26 : decode cX5_pass 26 = .ok (.aload_n 0, 1) := by decide +kernel
theorem dX5_pass_27 : decode cX5_pass 27 = .ok (.getfield 37, 3) := by decide +kernel
theorem dX5_pass_30 : decode cX5_pass 30 = .ok (.ifCond .ne 7, 3) := by decide +kernel
theorem dX5_pass_33 : decode cX5_pass 33 = .ok (.aload_n 0, 1) := by decide +kernel
theorem dX5_pass_34 : decode cX5_pass 34 = .ok (.invokevirtual 100, 3) := by decide +kernel
theorem dX5_pass_37 : decode cX5_pass 37 = .ok (.iinc 2 1, 3) := by decide +kernel
theorem dX5_pass_40 : decode cX5_pass 40 = .ok (.goto (-38), 3) := by decide +kernel
theorem dX5_pass_43 : decode cX5_pass 43 = .ok (.return_, 1) := by decide +kernel
theorem dX5_ring_0 : decode cX5_ring 0 = .ok (.aload_n 0, 1) := by decide +kernel
theorem dX5_ring_1 : decode cX5_ring 1 = .ok (.dup, 1) := by decide +kernel
theorem dX5_ring_2 : decode cX5_ring 2 = .ok (.getfield 25, 3) := by decide +kernel
theorem dX5_ring_5 : decode cX5_ring 5 = .ok (.iconst 1, 1) := by decide +kernel
theorem dX5_ring_6 : decode cX5_ring 6 = .ok (.ior, 1) := by decide +kernel
theorem dX5_ring_7 : decode cX5_ring 7 = .ok (.putfield 25, 3) := by decide +kernel
theorem dX5_ring_10 : decode cX5_ring 10 = .ok (.aload_n 0, 1) := by decide +kernel
theorem dX5_ring_11 : decode cX5_ring 11 = .ok (.getfield 40, 3) := by decide +kernel
theorem dX5_ring_14 : decode cX5_ring 14 = .ok (.iconst 2, 1) := by decide +kernel
theorem dX5_ring_15 : decode cX5_ring 15 = .ok (.iand, 1) := by decide +kernel
theorem dX5_ring_16 : decode cX5_ring 16 = .ok (.ifCond .eq 10, 3) := by decide +kernel
theorem dX5_ring_19 : decode cX5_ring 19 = .ok (.aload_n 0, 1) := by decide +kernel
theorem dX5_ring_20 : decode cX5_ring 20 = .ok (.invokevirtual 95, 3) := by decide +kernel
theorem dX5_ring_23 : decode cX5_ring 23 = .ok (.goto 14, 3) := by decide +kernel
theorem dX5_ring_26 : decode cX5_ring 26 = .ok (.aload_n 0, 1) := by decide +kernel
theorem dX5_ring_27 : decode cX5_ring 27 = .ok (.dup, 1) := by decide +kernel
theorem dX5_ring_28 : decode cX5_ring 28 = .ok (.getfield 40, 3) := by decide +kernel
theorem dX5_ring_31 : decode cX5_ring 31 = .ok (.bipush (-2), 2) := by decide +kernel
theorem dX5_ring_33 : decode cX5_ring 33 = .ok (.iand, 1) := by decide +kernel
theorem dX5_ring_34 : decode cX5_ring 34 = .ok (.putfield 40, 3) := by decide +kernel
theorem dX5_ring_37 : decode cX5_ring 37 = .ok (.return_, 1) := by decide +kernel
theorem dX6_init_0 : decode cX6_init 0 = .ok (.aload_n 0, 1) := by decide +kernel
theorem dX6_init_1 : decode cX6_init 1 = .ok (.invokespecial 3, 3) := by decide +kernel
theorem dX6_init_4 : decode cX6_init 4 = .ok (.aload_n 0, 1) := by decide +kernel
theorem dX6_init_5 : decode cX6_init 5 = .ok (.sipush 4096, 3) := by decide +kernel
theorem dX6_init_8 : decode cX6_init 8 = .ok (.newarray .int, 2) := by decide +kernel
theorem dX6_init_10 : decode cX6_init 10 = .ok (.putfield 9, 3) := by decide +kernel
theorem dX6_init_13 : decode cX6_init 13 = .ok (.aload_n 0, 1) := by decide +kernel
theorem dX6_init_14 : decode cX6_init 14 = .ok (.sipush 4096, 3) := by decide +kernel
theorem dX6_init_17 : decode cX6_init 17 = .ok (.newarray .int, 2) := by decide +kernel
theorem dX6_init_19 : decode cX6_init 19 = .ok (.putfield 15, 3) := by decide +kernel
theorem dX6_init_22 : decode cX6_init 22 = .ok (.aload_n 0, 1) := by decide +kernel
theorem dX6_init_23 : decode cX6_init 23 = .ok (.sipush 4096, 3) := by decide +kernel
theorem dX6_init_26 : decode cX6_init 26 = .ok (.newarray .int, 2) := by decide +kernel
theorem dX6_init_28 : decode cX6_init 28 = .ok (.putfield 18, 3) := by decide +kernel
theorem dX6_init_31 : decode cX6_init 31 = .ok (.return_, 1) := by decide +kernel
theorem dX6_explore_0 : decode cX6_explore 0 = .ok (.aload_n 0, 1) := by decide +kernel
theorem dX6_explore_1 : decode cX6_explore 1 = .ok (.getfield 9, 3) := by decide +kernel
theorem dX6_explore_4 : decode cX6_explore 4 = .ok (.iconst 0, 1) := by decide +kernel
theorem dX6_explore_5 : decode cX6_explore 5 = .ok (.invokestatic 21, 3) := by decide +kernel
theorem dX6_explore_8 : decode cX6_explore 8 = .ok (.aload_n 0, 1) := by decide +kernel
theorem dX6_explore_9 : decode cX6_explore 9 = .ok (.getfield 15, 3) := by decide +kernel
theorem dX6_explore_12 : decode cX6_explore 12 = .ok (.iconst 0, 1) := by decide +kernel
theorem dX6_explore_13 : decode cX6_explore 13 = .ok (.invokestatic 21, 3) := by decide +kernel
theorem dX6_explore_16 : decode cX6_explore 16 = .ok (.aload_n 0, 1) := by decide +kernel
theorem dX6_explore_17 : decode cX6_explore 17 = .ok (.iconst 0, 1) := by decide +kernel
theorem dX6_explore_18 : decode cX6_explore 18 = .ok (.putfield 27, 3) := by decide +kernel
theorem dX6_explore_21 : decode cX6_explore 21 = .ok (.aload_n 0, 1) := by decide +kernel
theorem dX6_explore_22 : decode cX6_explore 22 = .ok (.iconst 0, 1) := by decide +kernel
theorem dX6_explore_23 : decode cX6_explore 23 = .ok (.putfield 31, 3) := by decide +kernel
theorem dX6_explore_26 : decode cX6_explore 26 = .ok (.aload_n 0, 1) := by decide +kernel
theorem dX6_explore_27 : decode cX6_explore 27 = .ok (.aload_n 1, 1) := by decide +kernel
theorem dX6_explore_28 : decode cX6_explore 28 = .ok (.getfield 34, 3) := by decide +kernel
theorem dX6_explore_31 : decode cX6_explore 31 = .ok (.invokevirtual 39, 3) := by decide +kernel
theorem dX6_explore_34 : decode cX6_explore 34 = .ok (.iconst 0, 1) := by decide +kernel
theorem dX6_explore_35 : decode cX6_explore 35 = .ok (.istore_n 2, 1) := by decide +kernel
theorem dX6_explore_36 : decode cX6_explore 36 = .ok (.iload_n 2, 1) := by decide +kernel
theorem dX6_explore_37 : decode cX6_explore 37 = .ok (.bipush 8, 2) := by decide +kernel
theorem dX6_explore_39 : decode cX6_explore 39 = .ok (.if_icmp .ge 18, 3) := by decide +kernel
theorem dX6_explore_42 : decode cX6_explore 42 = .ok (.aload_n 0, 1) := by decide +kernel
theorem dX6_explore_43 : decode cX6_explore 43 = .ok (.aload_n 1, 1) := by decide +kernel
theorem dX6_explore_44 : decode cX6_explore 44 = .ok (.iload_n 2, 1) := by decide +kernel
theorem dX6_explore_45 : decode cX6_explore 45 = .ok (.invokevirtual 43, 3) := by decide +kernel
theorem dX6_explore_48 : decode cX6_explore 48 = .ok (.invokevirtual 39, 3) := by decide +kernel
theorem dX6_explore_51 : decode cX6_explore 51 = .ok (.iinc 2 1, 3) := by decide +kernel
theorem dX6_explore_54 : decode cX6_explore 54 = .ok (.goto (-18), 3) := by decide +kernel
theorem dX6_explore_57 : decode cX6_explore 57 = .ok (.iconst 0, 1) := by decide +kernel
theorem dX6_explore_58 : decode cX6_explore 58 = .ok (.istore_n 2, 1) := by decide +kernel
theorem dX6_explore_59 : decode cX6_explore 59 = .ok (.iload_n 2, 1) := by decide +kernel
theorem dX6_explore_60 : decode cX6_explore 60 = .ok (.sipush 4096, 3) := by decide +kernel
theorem dX6_explore_63 : decode cX6_explore 63 = .ok (.if_icmp .ge 42, 3) := by decide +kernel
theorem dX6_explore_66 : decode cX6_explore 66 = .ok (.aload_n 0, 1) := by decide +kernel
theorem dX6_explore_67 : decode cX6_explore 67 = .ok (.getfield 27, 3) := by decide +kernel
theorem dX6_explore_70 : decode cX6_explore 70 = .ok (.ifCond .le 35, 3) := by decide +kernel
theorem dX6_explore_73 : decode cX6_explore 73 = .ok (.aload_n 0, 1) := by decide +kernel
theorem dX6_explore_74 : decode cX6_explore 74 = .ok (.dup, 1) := by decide +kernel
theorem dX6_explore_75 : decode cX6_explore 75 = .ok (.getfield 27, 3) := by decide +kernel
theorem dX6_explore_78 : decode cX6_explore 78 = .ok (.iconst 1, 1) := by decide +kernel
theorem dX6_explore_79 : decode cX6_explore 79 = .ok (.isub, 1) := by decide +kernel
theorem dX6_explore_80 : decode cX6_explore 80 = .ok (.putfield 27, 3) := by decide +kernel
theorem dX6_explore_83 : decode cX6_explore 83 = .ok (.aload_n 0, 1) := by decide +kernel
theorem dX6_explore_84 : decode cX6_explore 84 = .ok (.aload_n 1, 1) := by decide +kernel
theorem dX6_explore_85 : decode cX6_explore 85 = .ok (.aload_n 0, 1) := by decide +kernel
theorem dX6_explore_86 : decode cX6_explore 86 = .ok (.getfield 18, 3) := by decide +kernel
theorem dX6_explore_89 : decode cX6_explore 89 = .ok (.aload_n 0, 1) := by decide +kernel
theorem dX6_explore_90 : decode cX6_explore 90 = .ok (.getfield 27, 3) := by decide +kernel
theorem dX6_explore_93 : decode cX6_explore 93 = .ok (.invokestatic 47, 3) := by decide +kernel
theorem dX6_explore_96 : decode cX6_explore 96 = .ok (.invokevirtual 51, 3) := by decide +kernel
theorem dX6_explore_99 : decode cX6_explore 99 = .ok (.iinc 2 1, 3) := by decide +kernel
theorem dX6_explore_102 : decode cX6_explore 102 = .ok (.goto (-43), 3) := by decide +kernel
theorem dX6_explore_105 : decode cX6_explore 105 = .ok (.return_, 1) := by decide +kernel
theorem dX6_comeTo_0 : decode cX6_comeTo 0 = .ok (.aload_n 0, 1) := by decide +kernel
theorem dX6_comeTo_1 : decode cX6_comeTo 1 = .ok (.getfield 9, 3) := by decide +kernel
theorem dX6_comeTo_4 : decode cX6_comeTo 4 = .ok (.iload_n 1, 1) := by decide +kernel
theorem dX6_comeTo_5 : decode cX6_comeTo 5 = .ok (.invokestatic 47, 3) := by decide +kernel
theorem dX6_comeTo_8 : decode cX6_comeTo 8 = .ok (.ifCond .eq 4, 3) := by decide +kernel
theorem dX6_comeTo_11 : decode cX6_comeTo 11 = .ok (.return_, 1) := by decide +kernel
theorem dX6_comeTo_12 : decode cX6_comeTo 12 = .ok (.aload_n 0, 1) := by decide +kernel
theorem dX6_comeTo_13 : decode cX6_comeTo 13 = .ok (.getfield 9, 3) := by decide +kernel
theorem dX6_comeTo_16 : decode cX6_comeTo 16 = .ok (.iload_n 1, 1) := by decide +kernel
theorem dX6_comeTo_17 : decode cX6_comeTo 17 = .ok (.iconst 1, 1) := by decide +kernel
theorem dX6_comeTo_18 : decode cX6_comeTo 18 = .ok (.invokestatic 55, 3) := by decide +kernel
theorem dX6_comeTo_21 : decode cX6_comeTo 21 = .ok (.aload_n 0, 1) := by decide +kernel
theorem dX6_comeTo_22 : decode cX6_comeTo 22 = .ok (.getfield 18, 3) := by decide +kernel
theorem dX6_comeTo_25 : decode cX6_comeTo 25 = .ok (.aload_n 0, 1) := by decide +kernel
theorem dX6_comeTo_26 : decode cX6_comeTo 26 = .ok (.getfield 27, 3) := by decide +kernel
theorem dX6_comeTo_29 : decode cX6_comeTo 29 = .ok (.iload_n 1, 1) := by decide +kernel
theorem dX6_comeTo_30 : decode cX6_comeTo 30 = .ok (.invokestatic 55, 3) := by decide +kernel
theorem dX6_comeTo_33 : decode cX6_comeTo 33 = .ok (.aload_n 0, 1) := by decide +kernel
theorem dX6_comeTo_34 : decode cX6_comeTo 34 = .ok (.dup, 1) := by decide +kernel
theorem dX6_comeTo_35 : decode cX6_comeTo 35 = .ok (.getfield 27, 3) := by decide +kernel
theorem dX6_comeTo_38 : decode cX6_comeTo 38 = .ok (.iconst 1, 1) := by decide +kernel
theorem dX6_comeTo_39 : decode cX6_comeTo 39 = .ok (.iadd, 1) := by decide +kernel
theorem dX6_comeTo_40 : decode cX6_comeTo 40 = .ok (.putfield 27, 3) := by decide +kernel
theorem dX6_comeTo_43 : decode cX6_comeTo 43 = .ok (.return_, 1) := by decide +kernel
theorem dX6_goFrom_0 : decode cX6_goFrom 0 = .ok (.aload_n 1, 1) := by decide +kernel
theorem dX6_goFrom_1 : decode cX6_goFrom 1 = .ok (.iload_n 2, 1) := by decide +kernel
theorem dX6_goFrom_2 : decode cX6_goFrom 2 = .ok (.invokevirtual 59, 3) := by decide +kernel
theorem dX6_goFrom_5 : decode cX6_goFrom 5 = .ok (.istore_n 3, 1) := by decide +kernel
theorem dX6_goFrom_6 : decode cX6_goFrom 6 = .ok (.iload_n 3, 1) := by decide +kernel
theorem dX6_goFrom_7 : decode cX6_goFrom 7 = .ok (.invokestatic 62, 3) := by decide +kernel
theorem dX6_goFrom_10 : decode cX6_goFrom 10 = .ok (.istore 4, 2) := by decide +kernel
theorem dX6_goFrom_12 : decode cX6_goFrom 12 = .ok (.iload 4, 2) := by decide +kernel
theorem dX6_goFrom_14 : decode cX6_goFrom 14 = .ok (.ifCond .ne 4, 3) := by decide +kernel
theorem dX6_goFrom_17 : decode cX6_goFrom 17 = .ok (.return_, 1) := by decide +kernel
theorem dX6_goFrom_18 : decode cX6_goFrom 18 = .ok (.aload_n 0, 1) := by decide +kernel
theorem dX6_goFrom_19 : decode cX6_goFrom 19 = .ok (.getfield 15, 3) := by decide +kernel
theorem dX6_goFrom_22 : decode cX6_goFrom 22 = .ok (.iload_n 2, 1) := by decide +kernel
theorem dX6_goFrom_23 : decode cX6_goFrom 23 = .ok (.iconst 1, 1) := by decide +kernel
theorem dX6_goFrom_24 : decode cX6_goFrom 24 = .ok (.invokestatic 55, 3) := by decide +kernel
theorem dX6_goFrom_27 : decode cX6_goFrom 27 = .ok (.aload_n 0, 1) := by decide +kernel
theorem dX6_goFrom_28 : decode cX6_goFrom 28 = .ok (.dup, 1) := by decide +kernel
theorem dX6_goFrom_29 : decode cX6_goFrom 29 = .ok (.getfield 31, 3) := by decide +kernel
theorem dX6_goFrom_32 : decode cX6_goFrom 32 = .ok (.iconst 1, 1) := by decide +kernel
theorem dX6_goFrom_33 : decode cX6_goFrom 33 = .ok (.iadd, 1) := by decide +kernel
theorem dX6_goFrom_34 : decode cX6_goFrom 34 = .ok (.putfield 31, 3) := by decide +kernel
theorem dX6_goFrom_37 : decode cX6_goFrom 37 = .ok (.iload_n 3, 1) := by decide +kernel
theorem dX6_goFrom_38 : decode cX6_goFrom 38 = .ok (.iconst 3, 1) := by decide +kernel
theorem dX6_goFrom_39 : decode cX6_goFrom 39 = .ok (.ishr, 1) := by decide +kernel
theorem dX6_goFrom_40 : decode cX6_goFrom 40 = .ok (.istore 5, 2) := by decide +kernel
theorem dX6_goFrom_42 : decode cX6_goFrom 42 = .ok (.iload_n 3, 1) := by decide +kernel
theorem dX6_goFrom_43 : decode cX6_goFrom 43 = .ok (.iconst 1, 1) := by decide +kernel
theorem dX6_goFrom_44 : decode cX6_goFrom 44 = .ok (.if_icmp .eq 27, 3) := by decide +kernel
theorem dX6_goFrom_47 : decode cX6_goFrom 47 = .ok (.iload_n 3, 1) := by decide +kernel
theorem dX6_goFrom_48 : decode cX6_goFrom 48 = .ok (.iconst 3, 1) := by decide +kernel
theorem dX6_goFrom_49 : decode cX6_goFrom 49 = .ok (.if_icmp .eq 22, 3) := by decide +kernel
theorem dX6_goFrom_52 : decode cX6_goFrom 52 = .ok (.iload_n 3, 1) := by decide +kernel
theorem dX6_goFrom_53 : decode cX6_goFrom 53 = .ok (.iconst 4, 1) := by decide +kernel
theorem dX6_goFrom_54 : decode cX6_goFrom 54 = .ok (.if_icmp .eq 17, 3) := by decide +kernel
theorem dX6_goFrom_57 : decode cX6_goFrom 57 = .ok (.iload_n 3, 1) := by decide +kernel
theorem dX6_goFrom_58 : decode cX6_goFrom 58 = .ok (.sipush 216, 3) := by decide +kernel
theorem dX6_goFrom_61 : decode cX6_goFrom 61 = .ok (.if_icmp .eq 10, 3) := by decide +kernel
theorem dX6_goFrom_64 : decode cX6_goFrom 64 = .ok (.iload 5, 2) := by decide +kernel
theorem dX6_goFrom_66 : decode cX6_goFrom 66 = .ok (.bipush 24, 2) := by decide +kernel
theorem dX6_goFrom_68 : decode cX6_goFrom 68 = .ok (.if_icmp .ne 7, 3) := by decide +kernel
theorem dX6_goFrom_71 : decode cX6_goFrom 71 = .ok (.iconst 1, 1) := by decide +kernel
theorem dX6_goFrom_72 : decode cX6_goFrom 72 = .ok (.goto 4, 3) := by decide +kernel
theorem dX6_goFrom_75 : decode cX6_goFrom 75 = .ok (.iconst 0, 1) := by decide +kernel
theorem dX6_goFrom_76 : decode cX6_goFrom 76 = .ok (.istore 6, 2) := by decide +kernel
theorem dX6_goFrom_78 : decode cX6_goFrom 78 = .ok (.iload 6, 2) := by decide +kernel
theorem dX6_goFrom_80 : decode cX6_goFrom 80 = .ok (.ifCond .ne 15, 3) := by decide +kernel
theorem dX6_goFrom_83 : decode cX6_goFrom 83 = .ok (.aload_n 0, 1) := by decide +kernel
theorem dX6_goFrom_84 : decode cX6_goFrom 84 = .ok (.iload_n 2, 1) := by decide +kernel
theorem dX6_goFrom_85 : decode cX6_goFrom 85 = .ok (.iload 4, 2) := by decide +kernel
theorem dX6_goFrom_87 : decode cX6_goFrom 87 = .ok (.iadd, 1) := by decide +kernel
theorem dX6_goFrom_88 : decode cX6_goFrom 88 = .ok (.sipush 4095, 3) := by decide +kernel
theorem dX6_goFrom_91 : decode cX6_goFrom 91 = .ok (.iand, 1) := by decide +kernel
theorem dX6_goFrom_92 : decode cX6_goFrom 92 = .ok (.invokevirtual 39, 3) := by decide +kernel
theorem dX6_goFrom_95 : decode cX6_goFrom 95 = .ok (.iload 5, 2) := by decide +kernel
theorem dX6_goFrom_97 : decode cX6_goFrom 97 = .ok (.bipush 24, 2) := by decide +kernel
theorem dX6_goFrom_99 : decode cX6_goFrom 99 = .ok (.if_icmp .eq 10, 3) := by decide +kernel
theorem dX6_goFrom_102 : decode cX6_goFrom 102 = .ok (.iload 5, 2) := by decide +kernel
theorem dX6_goFrom_104 : decode cX6_goFrom 104 = .ok (.bipush 25, 2) := by decide +kernel
theorem dX6_goFrom_106 : decode cX6_goFrom 106 = .ok (.if_icmp .ne 15, 3) := by decide +kernel
theorem dX6_goFrom_109 : decode cX6_goFrom 109 = .ok (.iload_n 3, 1) := by decide +kernel
theorem dX6_goFrom_110 : decode cX6_goFrom 110 = .ok (.bipush 7, 2) := by decide +kernel
theorem dX6_goFrom_112 : decode cX6_goFrom 112 = .ok (.iand, 1) := by decide +kernel
theorem dX6_goFrom_113 : decode cX6_goFrom 113 = .ok (.iconst 3, 1) := by decide +kernel
theorem dX6_goFrom_114 : decode cX6_goFrom 114 = .ok (.if_icmp .ne 7, 3) := by decide +kernel
theorem dX6_goFrom_117 : decode cX6_goFrom 117 = .ok (.iconst 1, 1) := by decide +kernel
theorem dX6_goFrom_118 : decode cX6_goFrom 118 = .ok (.goto 4, 3) := by decide +kernel
theorem dX6_goFrom_121 : decode cX6_goFrom 121 = .ok (.iconst 0, 1) := by decide +kernel
theorem dX6_goFrom_122 : decode cX6_goFrom 122 = .ok (.istore 7, 2) := by decide +kernel
theorem dX6_goFrom_124 : decode cX6_goFrom 124 = .ok (.iload 7, 2) := by decide +kernel
theorem dX6_goFrom_126 : decode cX6_goFrom 126 = .ok (.ifCond .ne 10, 3) := by decide +kernel
theorem dX6_goFrom_129 : decode cX6_goFrom 129 = .ok (.iload_n 3, 1) := by decide +kernel
theorem dX6_goFrom_130 : decode cX6_goFrom 130 = .ok (.sipush 208, 3) := by decide +kernel
theorem dX6_goFrom_133 : decode cX6_goFrom 133 = .ok (.if_icmp .lt 16, 3) := by decide +kernel
theorem dX6_goFrom_136 : decode cX6_goFrom 136 = .ok (.aload_n 0, 1) := by decide +kernel
theorem dX6_goFrom_137 : decode cX6_goFrom 137 = .ok (.aload_n 1, 1) := by decide +kernel
theorem dX6_goFrom_138 : decode cX6_goFrom 138 = .ok (.iload_n 2, 1) := by decide +kernel
theorem dX6_goFrom_139 : decode cX6_goFrom 139 = .ok (.invokevirtual 65, 3) := by decide +kernel
theorem dX6_goFrom_142 : decode cX6_goFrom 142 = .ok (.sipush 4095, 3) := by decide +kernel
theorem dX6_goFrom_145 : decode cX6_goFrom 145 = .ok (.iand, 1) := by decide +kernel
theorem dX6_goFrom_146 : decode cX6_goFrom 146 = .ok (.invokevirtual 39, 3) := by decide +kernel
theorem dX6_goFrom_149 : decode cX6_goFrom 149 = .ok (.iload_n 3, 1) := by decide +kernel
theorem dX6_goFrom_150 : decode cX6_goFrom 150 = .ok (.iconst 5, 1) := by decide +kernel
theorem dX6_goFrom_151 : decode cX6_goFrom 151 = .ok (.if_icmp .ne 13, 3) := by decide +kernel
theorem dX6_goFrom_154 : decode cX6_goFrom 154 = .ok (.aload_n 0, 1) := by decide +kernel
theorem dX6_goFrom_155 : decode cX6_goFrom 155 = .ok (.aload_n 1, 1) := by decide +kernel
theorem dX6_goFrom_156 : decode cX6_goFrom 156 = .ok (.bipush 6, 2) := by decide +kernel
theorem dX6_goFrom_158 : decode cX6_goFrom 158 = .ok (.invokevirtual 43, 3) := by decide +kernel
theorem dX6_goFrom_161 : decode cX6_goFrom 161 = .ok (.invokevirtual 39, 3) := by decide +kernel
theorem dX6_goFrom_164 : decode cX6_goFrom 164 = .ok (.return_, 1) := by decide +kernel
theorem dX7_init_0 : decode cX7_init 0 = .ok (.aload_n 0, 1) := by decide +kernel
theorem dX7_init_1 : decode cX7_init 1 = .ok (.invokespecial 3, 3) := by decide +kernel
theorem dX7_init_4 : decode cX7_init 4 = .ok (.aload_n 0, 1) := by decide +kernel
theorem dX7_init_5 : decode cX7_init 5 = .ok (.bipush 6, 2) := by decide +kernel
theorem dX7_init_7 : decode cX7_init 7 = .ok (.newarray .int, 2) := by decide +kernel
theorem dX7_init_9 : decode cX7_init 9 = .ok (.putfield 11, 3) := by decide +kernel
theorem dX7_init_12 : decode cX7_init 12 = .ok (.aload_n 0, 1) := by decide +kernel
theorem dX7_init_13 : decode cX7_init 13 = .ok (.bipush 6, 2) := by decide +kernel
theorem dX7_init_15 : decode cX7_init 15 = .ok (.newarray .int, 2) := by decide +kernel
theorem dX7_init_17 : decode cX7_init 17 = .ok (.putfield 15, 3) := by decide +kernel
theorem dX7_init_20 : decode cX7_init 20 = .ok (.aload_n 0, 1) := by decide +kernel
theorem dX7_init_21 : decode cX7_init 21 = .ok (.iconst 4, 1) := by decide +kernel
theorem dX7_init_22 : decode cX7_init 22 = .ok (.newarray .int, 2) := by decide +kernel
theorem dX7_init_24 : decode cX7_init 24 = .ok (.putfield 18, 3) := by decide +kernel
theorem dX7_init_27 : decode cX7_init 27 = .ok (.aload_n 0, 1) := by decide +kernel
theorem dX7_init_28 : decode cX7_init 28 = .ok (.iconst 4, 1) := by decide +kernel
theorem dX7_init_29 : decode cX7_init 29 = .ok (.newarray .int, 2) := by decide +kernel
theorem dX7_init_31 : decode cX7_init 31 = .ok (.putfield 21, 3) := by decide +kernel
theorem dX7_init_34 : decode cX7_init 34 = .ok (.aload_n 0, 1) := by decide +kernel
theorem dX7_init_35 : decode cX7_init 35 = .ok (.iconst 4, 1) := by decide +kernel
theorem dX7_init_36 : decode cX7_init 36 = .ok (.newarray .int, 2) := by decide +kernel
theorem dX7_init_38 : decode cX7_init 38 = .ok (.putfield 24, 3) := by decide +kernel
theorem dX7_init_41 : decode cX7_init 41 = .ok (.return_, 1) := by decide +kernel
theorem dX7_breakIndex_0 : decode cX7_breakIndex 0 = .ok (.iconst 0, 1) := by decide +kernel
theorem dX7_breakIndex_1 : decode cX7_breakIndex 1 = .ok (.istore_n 2, 1) := by decide +kernel
theorem dX7_breakIndex_2 : decode cX7_breakIndex 2 = .ok (.iload_n 2, 1) := by decide +kernel
theorem dX7_breakIndex_3 : decode cX7_breakIndex 3 = .ok (.aload_n 0, 1) := by decide +kernel
theorem dX7_breakIndex_4 : decode cX7_breakIndex 4 = .ok (.getfield 27, 3) := by decide +kernel
theorem dX7_breakIndex_7 : decode cX7_breakIndex 7 = .ok (.if_icmp .ge 23, 3) := by decide +kernel
theorem dX7_breakIndex_10 : decode cX7_breakIndex 10 = .ok (.aload_n 0, 1) := by decide +kernel
theorem dX7_breakIndex_11 : decode cX7_breakIndex 11 = .ok (.getfield 11, 3) := by decide +kernel
theorem dX7_breakIndex_14 : decode cX7_breakIndex 14 = .ok (.iload_n 2, 1) := by decide +kernel
theorem dX7_breakIndex_15 : decode cX7_breakIndex 15 = .ok (.invokestatic 37, 3) := by decide +kernel
theorem dX7_breakIndex_18 : decode cX7_breakIndex 18 = .ok (.iload_n 1, 1) := by decide +kernel
theorem dX7_breakIndex_19 : decode cX7_breakIndex 19 = .ok (.if_icmp .ne 5, 3) := by decide +kernel
theorem dX7_breakIndex_22 : decode cX7_breakIndex 22 = .ok (.iload_n 2, 1) := by decide +kernel
theorem dX7_breakIndex_23 : decode cX7_breakIndex 23 = .ok (.ireturn, 1) := by decide +kernel
theorem dX7_breakIndex_24 : decode cX7_breakIndex 24 = .ok (.iinc 2 1, 3) := by decide +kernel
theorem dX7_breakIndex_27 : decode cX7_breakIndex 27 = .ok (.goto (-25), 3) := by decide +kernel
theorem dX7_breakIndex_30 : decode cX7_breakIndex 30 = .ok (.iconst (-1), 1) := by decide +kernel
theorem dX7_breakIndex_31 : decode cX7_breakIndex 31 = .ok (.ireturn, 1) := by decide +kernel
theorem dX7_breaksAt_0 : decode cX7_breaksAt 0 = .ok (.aload_n 0, 1) := by decide +kernel
theorem dX7_breaksAt_1 : decode cX7_breaksAt 1 = .ok (.iload_n 1, 1) := by decide +kernel
theorem dX7_breaksAt_2 : decode cX7_breaksAt 2 = .ok (.invokevirtual 41, 3) := by decide +kernel
theorem dX7_breaksAt_5 : decode cX7_breaksAt 5 = .ok (.istore_n 2, 1) := by decide +kernel
theorem dX7_breaksAt_6 : decode cX7_breaksAt 6 = .ok (.iload_n 2, 1) := by decide +kernel
theorem dX7_breaksAt_7 : decode cX7_breaksAt 7 = .ok (.ifCond .ge 5, 3) := by decide +kernel
theorem dX7_breaksAt_10 : decode cX7_breaksAt 10 = .ok (.iconst 0, 1) := by decide +kernel
theorem dX7_breaksAt_11 : decode cX7_breaksAt 11 = .ok (.ireturn, 1) := by decide +kernel
theorem dX7_breaksAt_12 : decode cX7_breaksAt 12 = .ok (.aload_n 0, 1) := by decide +kernel
theorem dX7_breaksAt_13 : decode cX7_breaksAt 13 = .ok (.getfield 15, 3) := by decide +kernel
theorem dX7_breaksAt_16 : decode cX7_breaksAt 16 = .ok (.iload_n 2, 1) := by decide +kernel
theorem dX7_breaksAt_17 : decode cX7_breaksAt 17 = .ok (.invokestatic 37, 3) := by decide +kernel
theorem dX7_breaksAt_20 : decode cX7_breaksAt 20 = .ok (.istore_n 3, 1) := by decide +kernel
theorem dX7_breaksAt_21 : decode cX7_breaksAt 21 = .ok (.iload_n 3, 1) := by decide +kernel
theorem dX7_breaksAt_22 : decode cX7_breaksAt 22 = .ok (.ifCond .le 14, 3) := by decide +kernel
theorem dX7_breaksAt_25 : decode cX7_breaksAt 25 = .ok (.aload_n 0, 1) := by decide +kernel
theorem dX7_breaksAt_26 : decode cX7_breaksAt 26 = .ok (.getfield 15, 3) := by decide +kernel
theorem dX7_breaksAt_29 : decode cX7_breaksAt 29 = .ok (.iload_n 2, 1) := by decide +kernel
theorem dX7_breaksAt_30 : decode cX7_breaksAt 30 = .ok (.iload_n 3, 1) := by decide +kernel
theorem dX7_breaksAt_31 : decode cX7_breaksAt 31 = .ok (.iconst 1, 1) := by decide +kernel
theorem dX7_breaksAt_32 : decode cX7_breaksAt 32 = .ok (.isub, 1) := by decide +kernel
theorem dX7_breaksAt_33 : decode cX7_breaksAt 33 = .ok (.invokestatic 45, 3) := by decide +kernel
theorem dX7_breaksAt_36 : decode cX7_breaksAt 36 = .ok (.iload_n 3, 1) := by decide +kernel
theorem dX7_breaksAt_37 : decode cX7_breaksAt 37 = .ok (.ifCond .ne 7, 3) := by decide +kernel
theorem dX7_breaksAt_40 : decode cX7_breaksAt 40 = .ok (.iconst 1, 1) := by decide +kernel
theorem dX7_breaksAt_41 : decode cX7_breaksAt 41 = .ok (.goto 4, 3) := by decide +kernel
theorem dX7_breaksAt_44 : decode cX7_breaksAt 44 = .ok (.iconst 0, 1) := by decide +kernel
theorem dX7_breaksAt_45 : decode cX7_breaksAt 45 = .ok (.ireturn, 1) := by decide +kernel
theorem dX7_isHit_0 : decode cX7_isHit 0 = .ok (.iconst 0, 1) := by decide +kernel
theorem dX7_isHit_1 : decode cX7_isHit 1 = .ok (.istore_n 2, 1) := by decide +kernel
theorem dX7_isHit_2 : decode cX7_isHit 2 = .ok (.iload_n 2, 1) := by decide +kernel
theorem dX7_isHit_3 : decode cX7_isHit 3 = .ok (.aload_n 1, 1) := by decide +kernel
theorem dX7_isHit_4 : decode cX7_isHit 4 = .ok (.getfield 49, 3) := by decide +kernel
theorem dX7_isHit_7 : decode cX7_isHit 7 = .ok (.if_icmp .ge 48, 3) := by decide +kernel
theorem dX7_isHit_10 : decode cX7_isHit 10 = .ok (.aload_n 1, 1) := by decide +kernel
theorem dX7_isHit_11 : decode cX7_isHit 11 = .ok (.getfield 54, 3) := by decide +kernel
theorem dX7_isHit_14 : decode cX7_isHit 14 = .ok (.iload_n 2, 1) := by decide +kernel
theorem dX7_isHit_15 : decode cX7_isHit 15 = .ok (.invokestatic 37, 3) := by decide +kernel
theorem dX7_isHit_18 : decode cX7_isHit 18 = .ok (.istore_n 3, 1) := by decide +kernel
theorem dX7_isHit_19 : decode cX7_isHit 19 = .ok (.iload_n 3, 1) := by decide +kernel
theorem dX7_isHit_20 : decode cX7_isHit 20 = .ok (.sipush 4096, 3) := by decide +kernel
theorem dX7_isHit_23 : decode cX7_isHit 23 = .ok (.if_icmp .ge 7, 3) := by decide +kernel
theorem dX7_isHit_26 : decode cX7_isHit 26 = .ok (.iconst 1, 1) := by decide +kernel
theorem dX7_isHit_27 : decode cX7_isHit 27 = .ok (.goto 4, 3) := by decide +kernel
theorem dX7_isHit_30 : decode cX7_isHit 30 = .ok (.iconst 2, 1) := by decide +kernel
theorem dX7_isHit_31 : decode cX7_isHit 31 = .ok (.istore 4, 2) := by decide +kernel
theorem dX7_isHit_33 : decode cX7_isHit 33 = .ok (.aload_n 0, 1) := by decide +kernel
theorem dX7_isHit_34 : decode cX7_isHit 34 = .ok (.iload_n 3, 1) := by decide +kernel
theorem dX7_isHit_35 : decode cX7_isHit 35 = .ok (.sipush 4095, 3) := by decide +kernel
theorem dX7_isHit_38 : decode cX7_isHit 38 = .ok (.iand, 1) := by decide +kernel
theorem dX7_isHit_39 : decode cX7_isHit 39 = .ok (.iload 4, 2) := by decide +kernel
theorem dX7_isHit_41 : decode cX7_isHit 41 = .ok (.invokevirtual 57, 3) := by decide +kernel
theorem dX7_isHit_44 : decode cX7_isHit 44 = .ok (.ifCond .eq 5, 3) := by decide +kernel
theorem dX7_isHit_47 : decode cX7_isHit 47 = .ok (.iconst 1, 1) := by decide +kernel
theorem dX7_isHit_48 : decode cX7_isHit 48 = .ok (.ireturn, 1) := by decide +kernel
theorem dX7_isHit_49 : decode cX7_isHit 49 = .ok (.iinc 2 1, 3) := by decide +kernel
theorem dX7_isHit_52 : decode cX7_isHit 52 = .ok (.goto (-50), 3) := by decide +kernel
theorem dX7_isHit_55 : decode cX7_isHit 55 = .ok (.iconst 0, 1) := by decide +kernel
theorem dX7_isHit_56 : decode cX7_isHit 56 = .ok (.ireturn, 1) := by decide +kernel
theorem dX7_isWatched_0 : decode cX7_isWatched 0 = .ok (.iconst 0, 1) := by decide +kernel
theorem dX7_isWatched_1 : decode cX7_isWatched 1 = .ok (.istore_n 3, 1) := by decide +kernel
theorem dX7_isWatched_2 : decode cX7_isWatched 2 = .ok (.iload_n 3, 1) := by decide +kernel
theorem dX7_isWatched_3 : decode cX7_isWatched 3 = .ok (.aload_n 0, 1) := by decide +kernel
theorem dX7_isWatched_4 : decode cX7_isWatched 4 = .ok (.getfield 31, 3) := by decide +kernel
theorem dX7_isWatched_7 : decode cX7_isWatched 7 = .ok (.if_icmp .ge 60, 3) := by decide +kernel
theorem dX7_isWatched_10 : decode cX7_isWatched 10 = .ok (.aload_n 0, 1) := by decide +kernel
theorem dX7_isWatched_11 : decode cX7_isWatched 11 = .ok (.getfield 18, 3) := by decide +kernel
theorem dX7_isWatched_14 : decode cX7_isWatched 14 = .ok (.iload_n 3, 1) := by decide +kernel
theorem dX7_isWatched_15 : decode cX7_isWatched 15 = .ok (.invokestatic 37, 3) := by decide +kernel
theorem dX7_isWatched_18 : decode cX7_isWatched 18 = .ok (.iload_n 1, 1) := by decide +kernel
theorem dX7_isWatched_19 : decode cX7_isWatched 19 = .ok (.if_icmp .gt 19, 3) := by decide +kernel
theorem dX7_isWatched_22 : decode cX7_isWatched 22 = .ok (.iload_n 1, 1) := by decide +kernel
theorem dX7_isWatched_23 : decode cX7_isWatched 23 = .ok (.aload_n 0, 1) := by decide +kernel
theorem dX7_isWatched_24 : decode cX7_isWatched 24 = .ok (.getfield 21, 3) := by decide +kernel
theorem dX7_isWatched_27 : decode cX7_isWatched 27 = .ok (.iload_n 3, 1) := by decide +kernel
theorem dX7_isWatched_28 : decode cX7_isWatched 28 = .ok (.invokestatic 37, 3) := by decide +kernel
theorem dX7_isWatched_31 : decode cX7_isWatched 31 = .ok (.if_icmp .gt 7, 3) := by decide +kernel
theorem dX7_isWatched_34 : decode cX7_isWatched 34 = .ok (.iconst 1, 1) := by decide +kernel
theorem dX7_isWatched_35 : decode cX7_isWatched 35 = .ok (.goto 4, 3) := by decide +kernel
theorem dX7_isWatched_38 : decode cX7_isWatched 38 = .ok (.iconst 0, 1) := by decide +kernel
theorem dX7_isWatched_39 : decode cX7_isWatched 39 = .ok (.istore 4, 2) := by decide +kernel
theorem dX7_isWatched_41 : decode cX7_isWatched 41 = .ok (.iload 4, 2) := by decide +kernel
theorem dX7_isWatched_43 : decode cX7_isWatched 43 = .ok (.ifCond .eq 18, 3) := by decide +kernel
theorem dX7_isWatched_46 : decode cX7_isWatched 46 = .ok (.aload_n 0, 1) := by decide +kernel
theorem dX7_isWatched_47 : decode cX7_isWatched 47 = .ok (.getfield 24, 3) := by decide +kernel
theorem dX7_isWatched_50 : decode cX7_isWatched 50 = .ok (.iload_n 3, 1) := by decide +kernel
theorem dX7_isWatched_51 : decode cX7_isWatched 51 = .ok (.invokestatic 37, 3) := by decide +kernel
theorem dX7_isWatched_54 : decode cX7_isWatched 54 = .ok (.iload_n 2, 1) := by decide +kernel
theorem dX7_isWatched_55 : decode cX7_isWatched 55 = .ok (.iand, 1) := by decide +kernel
theorem dX7_isWatched_56 : decode cX7_isWatched 56 = .ok (.ifCond .eq 5, 3) := by decide +kernel
theorem dX7_isWatched_59 : decode cX7_isWatched 59 = .ok (.iconst 1, 1) := by decide +kernel
theorem dX7_isWatched_60 : decode cX7_isWatched 60 = .ok (.ireturn, 1) := by decide +kernel
theorem dX7_isWatched_61 : decode cX7_isWatched 61 = .ok (.iinc 3 1, 3) := by decide +kernel
theorem dX7_isWatched_64 : decode cX7_isWatched 64 = .ok (.goto (-62), 3) := by decide +kernel
theorem dX7_isWatched_67 : decode cX7_isWatched 67 = .ok (.iconst 0, 1) := by decide +kernel
theorem dX7_isWatched_68 : decode cX7_isWatched 68 = .ok (.ireturn, 1) := by decide +kernel
theorem dX8_init_0 : decode cX8_init 0 = .ok (.aload_n 0, 1) := by decide +kernel
theorem dX8_init_1 : decode cX8_init 1 = .ok (.invokespecial 3, 3) := by decide +kernel
theorem dX8_init_4 : decode cX8_init 4 = .ok (.aload_n 0, 1) := by decide +kernel
theorem dX8_init_5 : decode cX8_init 5 = .ok (.bipush 120, 2) := by decide +kernel
theorem dX8_init_7 : decode cX8_init 7 = .ok (.anewarray 9, 3) := by decide +kernel
theorem dX8_init_10 : decode cX8_init 10 = .ok (.putfield 11, 3) := by decide +kernel
theorem dX8_init_13 : decode cX8_init 13 = .ok (.aload_n 0, 1) := by decide +kernel
theorem dX8_init_14 : decode cX8_init 14 = .ok (.new 9, 3) := by decide +kernel
theorem dX8_init_17 : decode cX8_init 17 = .ok (.dup, 1) := by decide +kernel
theorem dX8_init_18 : decode cX8_init 18 = .ok (.invokespecial 17, 3) := by decide +kernel
theorem dX8_init_21 : decode cX8_init 21 = .ok (.putfield 18, 3) := by decide +kernel
theorem dX8_init_24 : decode cX8_init 24 = .ok (.aload_n 0, 1) := by decide +kernel
theorem dX8_init_25 : decode cX8_init 25 = .ok (.aload_n 1, 1) := by decide +kernel
theorem dX8_init_26 : decode cX8_init 26 = .ok (.putfield 22, 3) := by decide +kernel
theorem dX8_init_29 : decode cX8_init 29 = .ok (.aload_n 0, 1) := by decide +kernel
theorem dX8_init_30 : decode cX8_init 30 = .ok (.aload_n 2, 1) := by decide +kernel
theorem dX8_init_31 : decode cX8_init 31 = .ok (.putfield 26, 3) := by decide +kernel
theorem dX8_init_34 : decode cX8_init 34 = .ok (.iconst 0, 1) := by decide +kernel
theorem dX8_init_35 : decode cX8_init 35 = .ok (.istore_n 3, 1) := by decide +kernel
theorem dX8_init_36 : decode cX8_init 36 = .ok (.iload_n 3, 1) := by decide +kernel
theorem dX8_init_37 : decode cX8_init 37 = .ok (.aload_n 0, 1) := by decide +kernel
theorem dX8_init_38 : decode cX8_init 38 = .ok (.getfield 11, 3) := by decide +kernel
theorem dX8_init_41 : decode cX8_init 41 = .ok (.arraylength, 1) := by decide +kernel
theorem dX8_init_42 : decode cX8_init 42 = .ok (.if_icmp .ge 22, 3) := by decide +kernel
theorem dX8_init_45 : decode cX8_init 45 = .ok (.aload_n 0, 1) := by decide +kernel
theorem dX8_init_46 : decode cX8_init 46 = .ok (.getfield 11, 3) := by decide +kernel
theorem dX8_init_49 : decode cX8_init 49 = .ok (.iload_n 3, 1) := by decide +kernel
theorem dX8_init_50 : decode cX8_init 50 = .ok (.new 9, 3) := by decide +kernel
theorem dX8_init_53 : decode cX8_init 53 = .ok (.dup, 1) := by decide +kernel
theorem dX8_init_54 : decode cX8_init 54 = .ok (.invokespecial 17, 3) := by decide +kernel
theorem dX8_init_57 : decode cX8_init 57 = .ok (.aastore, 1) := by decide +kernel
theorem dX8_init_58 : decode cX8_init 58 = .ok (.iinc 3 1, 3) := by decide +kernel
theorem dX8_init_61 : decode cX8_init 61 = .ok (.goto (-25), 3) := by decide +kernel
theorem dX8_init_64 : decode cX8_init 64 = .ok (.return_, 1) := by decide +kernel
theorem dX9_init_0 : decode cX9_init 0 = .ok (.aload_n 0, 1) := by decide +kernel
theorem dX9_init_1 : decode cX9_init 1 = .ok (.invokespecial 3, 3) := by decide +kernel
theorem dX9_init_4 : decode cX9_init 4 = .ok (.aload_n 0, 1) := by decide +kernel
theorem dX9_init_5 : decode cX9_init 5 = .ok (.sipush 2000, 3) := by decide +kernel
theorem dX9_init_8 : decode cX9_init 8 = .ok (.newarray .int, 2) := by decide +kernel
theorem dX9_init_10 : decode cX9_init 10 = .ok (.putfield 9, 3) := by decide +kernel
theorem dX9_init_13 : decode cX9_init 13 = .ok (.aload_n 0, 1) := by decide +kernel
theorem dX9_init_14 : decode cX9_init 14 = .ok (.sipush 2001, 3) := by decide +kernel
theorem dX9_init_17 : decode cX9_init 17 = .ok (.newarray .int, 2) := by decide +kernel
theorem dX9_init_19 : decode cX9_init 19 = .ok (.putfield 15, 3) := by decide +kernel
theorem dX9_init_22 : decode cX9_init 22 = .ok (.aload_n 0, 1) := by decide +kernel
theorem dX9_init_23 : decode cX9_init 23 = .ok (.sipush 2001, 3) := by decide +kernel
theorem dX9_init_26 : decode cX9_init 26 = .ok (.newarray .int, 2) := by decide +kernel
theorem dX9_init_28 : decode cX9_init 28 = .ok (.putfield 18, 3) := by decide +kernel
theorem dX9_init_31 : decode cX9_init 31 = .ok (.aload_n 0, 1) := by decide +kernel
theorem dX9_init_32 : decode cX9_init 32 = .ok (.sipush 2001, 3) := by decide +kernel
theorem dX9_init_35 : decode cX9_init 35 = .ok (.newarray .long, 2) := by decide +kernel
theorem dX9_init_37 : decode cX9_init 37 = .ok (.putfield 21, 3) := by decide +kernel
theorem dX9_init_40 : decode cX9_init 40 = .ok (.return_, 1) := by decide +kernel
theorem dX10_init_0 : decode cX10_init 0 = .ok (.aload_n 0, 1) := by decide +kernel
theorem dX10_init_1 : decode cX10_init 1 = .ok (.invokespecial 3, 3) := by decide +kernel
theorem dX10_init_4 : decode cX10_init 4 = .ok (.aload_n 0, 1) := by decide +kernel
theorem dX10_init_5 : decode cX10_init 5 = .ok (.aload_n 1, 1) := by decide +kernel
theorem dX10_init_6 : decode cX10_init 6 = .ok (.putfield 9, 3) := by decide +kernel
theorem dX10_init_9 : decode cX10_init 9 = .ok (.aload_n 0, 1) := by decide +kernel
theorem dX10_init_10 : decode cX10_init 10 = .ok (.aload_n 2, 1) := by decide +kernel
theorem dX10_init_11 : decode cX10_init 11 = .ok (.putfield 15, 3) := by decide +kernel
theorem dX10_init_14 : decode cX10_init 14 = .ok (.return_, 1) := by decide +kernel
theorem dX11_init_0 : decode cX11_init 0 = .ok (.aload_n 0, 1) := by decide +kernel
theorem dX11_init_1 : decode cX11_init 1 = .ok (.invokespecial 3, 3) := by decide +kernel
theorem dX11_init_4 : decode cX11_init 4 = .ok (.aload_n 0, 1) := by decide +kernel
theorem dX11_init_5 : decode cX11_init 5 = .ok (.new 9, 3) := by decide +kernel
theorem dX11_init_8 : decode cX11_init 8 = .ok (.dup, 1) := by decide +kernel
theorem dX11_init_9 : decode cX11_init 9 = .ok (.invokespecial 11, 3) := by decide +kernel
theorem dX11_init_12 : decode cX11_init 12 = .ok (.putfield 12, 3) := by decide +kernel
theorem dX11_init_15 : decode cX11_init 15 = .ok (.aload_n 0, 1) := by decide +kernel
theorem dX11_init_16 : decode cX11_init 16 = .ok (.new 16, 3) := by decide +kernel
theorem dX11_init_19 : decode cX11_init 19 = .ok (.dup, 1) := by decide +kernel
theorem dX11_init_20 : decode cX11_init 20 = .ok (.invokespecial 18, 3) := by decide +kernel
theorem dX11_init_23 : decode cX11_init 23 = .ok (.putfield 19, 3) := by decide +kernel
theorem dX11_init_26 : decode cX11_init 26 = .ok (.aload_n 0, 1) := by decide +kernel
theorem dX11_init_27 : decode cX11_init 27 = .ok (.new 23, 3) := by decide +kernel
theorem dX11_init_30 : decode cX11_init 30 = .ok (.dup, 1) := by decide +kernel
theorem dX11_init_31 : decode cX11_init 31 = .ok (.aload_n 0, 1) := by decide +kernel
theorem dX11_init_32 : decode cX11_init 32 = .ok (.getfield 12, 3) := by decide +kernel
theorem dX11_init_35 : decode cX11_init 35 = .ok (.aload_n 0, 1) := by decide +kernel
theorem dX11_init_36 : decode cX11_init 36 = .ok (.getfield 19, 3) := by decide +kernel
theorem dX11_init_39 : decode cX11_init 39 = .ok (.invokespecial 25, 3) := by decide +kernel
theorem dX11_init_42 : decode cX11_init 42 = .ok (.putfield 28, 3) := by decide +kernel
theorem dX11_init_45 : decode cX11_init 45 = .ok (.aload_n 0, 1) := by decide +kernel
theorem dX11_init_46 : decode cX11_init 46 = .ok (.new 32, 3) := by decide +kernel
theorem dX11_init_49 : decode cX11_init 49 = .ok (.dup, 1) := by decide +kernel
theorem dX11_init_50 : decode cX11_init 50 = .ok (.aload_n 0, 1) := by decide +kernel
theorem dX11_init_51 : decode cX11_init 51 = .ok (.getfield 12, 3) := by decide +kernel
theorem dX11_init_54 : decode cX11_init 54 = .ok (.aload_n 0, 1) := by decide +kernel
theorem dX11_init_55 : decode cX11_init 55 = .ok (.getfield 28, 3) := by decide +kernel
theorem dX11_init_58 : decode cX11_init 58 = .ok (.invokespecial 34, 3) := by decide +kernel
theorem dX11_init_61 : decode cX11_init 61 = .ok (.putfield 37, 3) := by decide +kernel
theorem dX11_init_64 : decode cX11_init 64 = .ok (.aload_n 0, 1) := by decide +kernel
theorem dX11_init_65 : decode cX11_init 65 = .ok (.new 41, 3) := by decide +kernel
theorem dX11_init_68 : decode cX11_init 68 = .ok (.dup, 1) := by decide +kernel
theorem dX11_init_69 : decode cX11_init 69 = .ok (.aload_n 0, 1) := by decide +kernel
theorem dX11_init_70 : decode cX11_init 70 = .ok (.getfield 12, 3) := by decide +kernel
theorem dX11_init_73 : decode cX11_init 73 = .ok (.aload_n 0, 1) := by decide +kernel
theorem dX11_init_74 : decode cX11_init 74 = .ok (.getfield 28, 3) := by decide +kernel
theorem dX11_init_77 : decode cX11_init 77 = .ok (.aload_n 0, 1) := by decide +kernel
theorem dX11_init_78 : decode cX11_init 78 = .ok (.getfield 19, 3) := by decide +kernel
theorem dX11_init_81 : decode cX11_init 81 = .ok (.aload_n 0, 1) := by decide +kernel
theorem dX11_init_82 : decode cX11_init 82 = .ok (.getfield 37, 3) := by decide +kernel
theorem dX11_init_85 : decode cX11_init 85 = .ok (.invokespecial 43, 3) := by decide +kernel
theorem dX11_init_88 : decode cX11_init 88 = .ok (.putfield 46, 3) := by decide +kernel
theorem dX11_init_91 : decode cX11_init 91 = .ok (.aload_n 0, 1) := by decide +kernel
theorem dX11_init_92 : decode cX11_init 92 = .ok (.new 50, 3) := by decide +kernel
theorem dX11_init_95 : decode cX11_init 95 = .ok (.dup, 1) := by decide +kernel
theorem dX11_init_96 : decode cX11_init 96 = .ok (.invokespecial 52, 3) := by decide +kernel
theorem dX11_init_99 : decode cX11_init 99 = .ok (.putfield 53, 3) := by decide +kernel
theorem dX11_init_102 : decode cX11_init 102 = .ok (.aload_n 0, 1) := by decide +kernel
theorem dX11_init_103 : decode cX11_init 103 = .ok (.new 50, 3) := by decide +kernel
theorem dX11_init_106 : decode cX11_init 106 = .ok (.dup, 1) := by decide +kernel
theorem dX11_init_107 : decode cX11_init 107 = .ok (.invokespecial 52, 3) := by decide +kernel
theorem dX11_init_110 : decode cX11_init 110 = .ok (.putfield 57, 3) := by decide +kernel
theorem dX11_init_113 : decode cX11_init 113 = .ok (.aload_n 0, 1) := by decide +kernel
theorem dX11_init_114 : decode cX11_init 114 = .ok (.new 60, 3) := by decide +kernel
theorem dX11_init_117 : decode cX11_init 117 = .ok (.dup, 1) := by decide +kernel
theorem dX11_init_118 : decode cX11_init 118 = .ok (.invokespecial 62, 3) := by decide +kernel
theorem dX11_init_121 : decode cX11_init 121 = .ok (.putfield 63, 3) := by decide +kernel
theorem dX11_init_124 : decode cX11_init 124 = .ok (.aload_n 0, 1) := by decide +kernel
theorem dX11_init_125 : decode cX11_init 125 = .ok (.new 67, 3) := by decide +kernel
theorem dX11_init_128 : decode cX11_init 128 = .ok (.dup, 1) := by decide +kernel
theorem dX11_init_129 : decode cX11_init 129 = .ok (.invokespecial 69, 3) := by decide +kernel
theorem dX11_init_132 : decode cX11_init 132 = .ok (.putfield 70, 3) := by decide +kernel
theorem dX11_init_135 : decode cX11_init 135 = .ok (.aload_n 0, 1) := by decide +kernel
theorem dX11_init_136 : decode cX11_init 136 = .ok (.new 74, 3) := by decide +kernel
theorem dX11_init_139 : decode cX11_init 139 = .ok (.dup, 1) := by decide +kernel
theorem dX11_init_140 : decode cX11_init 140 = .ok (.invokespecial 76, 3) := by decide +kernel
theorem dX11_init_143 : decode cX11_init 143 = .ok (.putfield 77, 3) := by decide +kernel
theorem dX11_init_146 : decode cX11_init 146 = .ok (.aload_n 0, 1) := by decide +kernel
theorem dX11_init_147 : decode cX11_init 147 = .ok (.getfield 53, 3) := by decide +kernel
theorem dX11_init_150 : decode cX11_init 150 = .ok (.invokevirtual 81, 3) := by decide +kernel
theorem dX11_init_153 : decode cX11_init 153 = .ok (.return_, 1) := by decide +kernel
theorem dX11_nameNear_0 : decode cX11_nameNear 0 = .ok (.iload_n 1, 1) := by decide +kernel
theorem dX11_nameNear_1 : decode cX11_nameNear 1 = .ok (.invokestatic 172, 3) := by decide +kernel
theorem dX11_nameNear_4 : decode cX11_nameNear 4 = .ok (.ifCond .eq 13, 3) := by decide +kernel
theorem dX11_nameNear_7 : decode cX11_nameNear 7 = .ok (.new 102, 3) := by decide +kernel
theorem dX11_nameNear_10 : decode cX11_nameNear 10 = .ok (.dup, 1) := by decide +kernel
theorem dX11_nameNear_11 : decode cX11_nameNear 11 = .ok (.ldc 176, 2) := by decide +kernel
theorem dX11_nameNear_13 : decode cX11_nameNear 13 = .ok (.invokespecial 106, 3) := by decide +kernel
theorem dX11_nameNear_16 : decode cX11_nameNear 16 = .ok (.athrow, 1) := by decide +kernel
theorem dX11_nameNear_17 : decode cX11_nameNear 17 = .ok (.aload_n 0, 1) := by decide +kernel
theorem dX11_nameNear_18 : decode cX11_nameNear 18 = .ok (.getfield 19, 3) := by decide +kernel
theorem dX11_nameNear_21 : decode cX11_nameNear 21 = .ok (.iload_n 1, 1) := by decide +kernel
theorem dX11_nameNear_22 : decode cX11_nameNear 22 = .ok (.invokevirtual 178, 3) := by decide +kernel
theorem dX11_nameNear_25 : decode cX11_nameNear 25 = .ok (.ireturn, 1) := by decide +kernel
theorem dX11_lineOf_0 : decode cX11_lineOf 0 = .ok (.iload_n 1, 1) := by decide +kernel
theorem dX11_lineOf_1 : decode cX11_lineOf 1 = .ok (.invokestatic 172, 3) := by decide +kernel
theorem dX11_lineOf_4 : decode cX11_lineOf 4 = .ok (.ifCond .eq 13, 3) := by decide +kernel
theorem dX11_lineOf_7 : decode cX11_lineOf 7 = .ok (.new 102, 3) := by decide +kernel
theorem dX11_lineOf_10 : decode cX11_lineOf 10 = .ok (.dup, 1) := by decide +kernel
theorem dX11_lineOf_11 : decode cX11_lineOf 11 = .ok (.ldc 176, 2) := by decide +kernel
theorem dX11_lineOf_13 : decode cX11_lineOf 13 = .ok (.invokespecial 106, 3) := by decide +kernel
theorem dX11_lineOf_16 : decode cX11_lineOf 16 = .ok (.athrow, 1) := by decide +kernel
theorem dX11_lineOf_17 : decode cX11_lineOf 17 = .ok (.aload_n 0, 1) := by decide +kernel
theorem dX11_lineOf_18 : decode cX11_lineOf 18 = .ok (.getfield 46, 3) := by decide +kernel
theorem dX11_lineOf_21 : decode cX11_lineOf 21 = .ok (.getfield 182, 3) := by decide +kernel
theorem dX11_lineOf_24 : decode cX11_lineOf 24 = .ok (.iload_n 1, 1) := by decide +kernel
theorem dX11_lineOf_25 : decode cX11_lineOf 25 = .ok (.aload_n 0, 1) := by decide +kernel
theorem dX11_lineOf_26 : decode cX11_lineOf 26 = .ok (.getfield 53, 3) := by decide +kernel
theorem dX11_lineOf_29 : decode cX11_lineOf 29 = .ok (.getfield 185, 3) := by decide +kernel
theorem dX11_lineOf_32 : decode cX11_lineOf 32 = .ok (.getfield 189, 3) := by decide +kernel
theorem dX11_lineOf_35 : decode cX11_lineOf 35 = .ok (.invokestatic 194, 3) := by decide +kernel
theorem dX11_lineOf_38 : decode cX11_lineOf 38 = .ok (.invokestatic 168, 3) := by decide +kernel
theorem dX11_lineOf_41 : decode cX11_lineOf 41 = .ok (.istore_n 2, 1) := by decide +kernel
theorem dX11_lineOf_42 : decode cX11_lineOf 42 = .ok (.iload_n 2, 1) := by decide +kernel
theorem dX11_lineOf_43 : decode cX11_lineOf 43 = .ok (.ifCond .le 7, 3) := by decide +kernel
theorem dX11_lineOf_46 : decode cX11_lineOf 46 = .ok (.iload_n 2, 1) := by decide +kernel
theorem dX11_lineOf_47 : decode cX11_lineOf 47 = .ok (.goto 4, 3) := by decide +kernel
theorem dX11_lineOf_50 : decode cX11_lineOf 50 = .ok (.iconst (-1), 1) := by decide +kernel
theorem dX11_lineOf_51 : decode cX11_lineOf 51 = .ok (.ireturn, 1) := by decide +kernel
theorem dX11_key_0 : decode cX11_key 0 = .ok (.iload_n 1, 1) := by decide +kernel
theorem dX11_key_1 : decode cX11_key 1 = .ok (.invokestatic 204, 3) := by decide +kernel
theorem dX11_key_4 : decode cX11_key 4 = .ok (.ifCond .eq 13, 3) := by decide +kernel
theorem dX11_key_7 : decode cX11_key 7 = .ok (.new 102, 3) := by decide +kernel
theorem dX11_key_10 : decode cX11_key 10 = .ok (.dup, 1) := by decide +kernel
theorem dX11_key_11 : decode cX11_key 11 = .ok (.ldc 207, 2) := by decide +kernel
theorem dX11_key_13 : decode cX11_key 13 = .ok (.invokespecial 106, 3) := by decide +kernel
theorem dX11_key_16 : decode cX11_key 16 = .ok (.athrow, 1) := by decide +kernel
theorem dX11_key_17 : decode cX11_key 17 = .ok (.aload_n 0, 1) := by decide +kernel
theorem dX11_key_18 : decode cX11_key 18 = .ok (.getfield 53, 3) := by decide +kernel
theorem dX11_key_21 : decode cX11_key 21 = .ok (.getfield 185, 3) := by decide +kernel
theorem dX11_key_24 : decode cX11_key 24 = .ok (.getfield 209, 3) := by decide +kernel
theorem dX11_key_27 : decode cX11_key 27 = .ok (.bipush 16, 2) := by decide +kernel
theorem dX11_key_29 : decode cX11_key 29 = .ok (.if_icmp .lt 13, 3) := by decide +kernel
theorem dX11_key_32 : decode cX11_key 32 = .ok (.new 88, 3) := by decide +kernel
theorem dX11_key_35 : decode cX11_key 35 = .ok (.dup, 1) := by decide +kernel
theorem dX11_key_36 : decode cX11_key 36 = .ok (.ldc 212, 2) := by decide +kernel
theorem dX11_key_38 : decode cX11_key 38 = .ok (.invokespecial 92, 3) := by decide +kernel
theorem dX11_key_41 : decode cX11_key 41 = .ok (.athrow, 1) := by decide +kernel
theorem dX11_key_42 : decode cX11_key 42 = .ok (.aload_n 0, 1) := by decide +kernel
theorem dX11_key_43 : decode cX11_key 43 = .ok (.getfield 63, 3) := by decide +kernel
theorem dX11_key_46 : decode cX11_key 46 = .ok (.invokevirtual 99, 3) := by decide +kernel
theorem dX11_key_49 : decode cX11_key 49 = .ok (.aload_n 0, 1) := by decide +kernel
theorem dX11_key_50 : decode cX11_key 50 = .ok (.getfield 53, 3) := by decide +kernel
theorem dX11_key_53 : decode cX11_key 53 = .ok (.getfield 185, 3) := by decide +kernel
theorem dX11_key_56 : decode cX11_key 56 = .ok (.iload_n 1, 1) := by decide +kernel
theorem dX11_key_57 : decode cX11_key 57 = .ok (.invokevirtual 214, 3) := by decide +kernel
theorem dX11_key_60 : decode cX11_key 60 = .ok (.aload_n 0, 1) := by decide +kernel
theorem dX11_key_61 : decode cX11_key 61 = .ok (.getfield 53, 3) := by decide +kernel
theorem dX11_key_64 : decode cX11_key 64 = .ok (.getfield 185, 3) := by decide +kernel
theorem dX11_key_67 : decode cX11_key 67 = .ok (.getfield 209, 3) := by decide +kernel
theorem dX11_key_70 : decode cX11_key 70 = .ok (.ireturn, 1) := by decide +kernel
theorem dX11_signal_0 : decode cX11_signal 0 = .ok (.aload_n 0, 1) := by decide +kernel
theorem dX11_signal_1 : decode cX11_signal 1 = .ok (.getfield 63, 3) := by decide +kernel
theorem dX11_signal_4 : decode cX11_signal 4 = .ok (.invokevirtual 99, 3) := by decide +kernel
theorem dX11_signal_7 : decode cX11_signal 7 = .ok (.aload_n 0, 1) := by decide +kernel
theorem dX11_signal_8 : decode cX11_signal 8 = .ok (.getfield 53, 3) := by decide +kernel
theorem dX11_signal_11 : decode cX11_signal 11 = .ok (.getfield 185, 3) := by decide +kernel
theorem dX11_signal_14 : decode cX11_signal 14 = .ok (.dup, 1) := by decide +kernel
theorem dX11_signal_15 : decode cX11_signal 15 = .ok (.getfield 217, 3) := by decide +kernel
theorem dX11_signal_18 : decode cX11_signal 18 = .ok (.iconst 4, 1) := by decide +kernel
theorem dX11_signal_19 : decode cX11_signal 19 = .ok (.ior, 1) := by decide +kernel
theorem dX11_signal_20 : decode cX11_signal 20 = .ok (.putfield 217, 3) := by decide +kernel
theorem dX11_signal_23 : decode cX11_signal 23 = .ok (.aload_n 0, 1) := by decide +kernel
theorem dX11_signal_24 : decode cX11_signal 24 = .ok (.getfield 53, 3) := by decide +kernel
theorem dX11_signal_27 : decode cX11_signal 27 = .ok (.getfield 185, 3) := by decide +kernel
theorem dX11_signal_30 : decode cX11_signal 30 = .ok (.getfield 217, 3) := by decide +kernel
theorem dX11_signal_33 : decode cX11_signal 33 = .ok (.ireturn, 1) := by decide +kernel
theorem dX11_nmi_0 : decode cX11_nmi 0 = .ok (.aload_n 0, 1) := by decide +kernel
theorem dX11_nmi_1 : decode cX11_nmi 1 = .ok (.getfield 53, 3) := by decide +kernel
theorem dX11_nmi_4 : decode cX11_nmi 4 = .ok (.getfield 220, 3) := by decide +kernel
theorem dX11_nmi_7 : decode cX11_nmi 7 = .ok (.istore_n 1, 1) := by decide +kernel
theorem dX11_nmi_8 : decode cX11_nmi 8 = .ok (.aload_n 0, 1) := by decide +kernel
theorem dX11_nmi_9 : decode cX11_nmi 9 = .ok (.getfield 63, 3) := by decide +kernel
theorem dX11_nmi_12 : decode cX11_nmi 12 = .ok (.invokevirtual 99, 3) := by decide +kernel
theorem dX11_nmi_15 : decode cX11_nmi 15 = .ok (.aload_n 0, 1) := by decide +kernel
theorem dX11_nmi_16 : decode cX11_nmi 16 = .ok (.getfield 53, 3) := by decide +kernel
theorem dX11_nmi_19 : decode cX11_nmi 19 = .ok (.iconst 1, 1) := by decide +kernel
theorem dX11_nmi_20 : decode cX11_nmi 20 = .ok (.putfield 220, 3) := by decide +kernel
theorem dX11_nmi_23 : decode cX11_nmi 23 = .ok (.iload_n 1, 1) := by decide +kernel
theorem dX11_nmi_24 : decode cX11_nmi 24 = .ok (.ireturn, 1) := by decide +kernel
theorem dX11_poke_0 : decode cX11_poke 0 = .ok (.iload_n 1, 1) := by decide +kernel
theorem dX11_poke_1 : decode cX11_poke 1 = .ok (.invokestatic 172, 3) := by decide +kernel
theorem dX11_poke_4 : decode cX11_poke 4 = .ok (.ifCond .ne 10, 3) := by decide +kernel
theorem dX11_poke_7 : decode cX11_poke 7 = .ok (.iload_n 1, 1) := by decide +kernel
theorem dX11_poke_8 : decode cX11_poke 8 = .ok (.invokestatic 224, 3) := by decide +kernel
theorem dX11_poke_11 : decode cX11_poke 11 = .ok (.ifCond .eq 13, 3) := by decide +kernel
theorem dX11_poke_14 : decode cX11_poke 14 = .ok (.new 102, 3) := by decide +kernel
theorem dX11_poke_17 : decode cX11_poke 17 = .ok (.dup, 1) := by decide +kernel
theorem dX11_poke_18 : decode cX11_poke 18 = .ok (.ldc 227, 2) := by decide +kernel
theorem dX11_poke_20 : decode cX11_poke 20 = .ok (.invokespecial 106, 3) := by decide +kernel
theorem dX11_poke_23 : decode cX11_poke 23 = .ok (.athrow, 1) := by decide +kernel
theorem dX11_poke_24 : decode cX11_poke 24 = .ok (.iload_n 2, 1) := by decide +kernel
theorem dX11_poke_25 : decode cX11_poke 25 = .ok (.invokestatic 204, 3) := by decide +kernel
theorem dX11_poke_28 : decode cX11_poke 28 = .ok (.ifCond .eq 13, 3) := by decide +kernel
theorem dX11_poke_31 : decode cX11_poke 31 = .ok (.new 102, 3) := by decide +kernel
theorem dX11_poke_34 : decode cX11_poke 34 = .ok (.dup, 1) := by decide +kernel
theorem dX11_poke_35 : decode cX11_poke 35 = .ok (.ldc 207, 2) := by decide +kernel
theorem dX11_poke_37 : decode cX11_poke 37 = .ok (.invokespecial 106, 3) := by decide +kernel
theorem dX11_poke_40 : decode cX11_poke 40 = .ok (.athrow, 1) := by decide +kernel
theorem dX11_poke_41 : decode cX11_poke 41 = .ok (.iload_n 1, 1) := by decide +kernel
theorem dX11_poke_42 : decode cX11_poke 42 = .ok (.aload_n 0, 1) := by decide +kernel
theorem dX11_poke_43 : decode cX11_poke 43 = .ok (.getfield 53, 3) := by decide +kernel
theorem dX11_poke_46 : decode cX11_poke 46 = .ok (.getfield 185, 3) := by decide +kernel
theorem dX11_poke_49 : decode cX11_poke 49 = .ok (.getfield 189, 3) := by decide +kernel
theorem dX11_poke_52 : decode cX11_poke 52 = .ok (.invokestatic 194, 3) := by decide +kernel
theorem dX11_poke_55 : decode cX11_poke 55 = .ok (.istore_n 3, 1) := by decide +kernel
theorem dX11_poke_56 : decode cX11_poke 56 = .ok (.aload_n 0, 1) := by decide +kernel
theorem dX11_poke_57 : decode cX11_poke 57 = .ok (.getfield 53, 3) := by decide +kernel
theorem dX11_poke_60 : decode cX11_poke 60 = .ok (.getfield 144, 3) := by decide +kernel
theorem dX11_poke_63 : decode cX11_poke 63 = .ok (.iload_n 3, 1) := by decide +kernel
theorem dX11_poke_64 : decode cX11_poke 64 = .ok (.invokestatic 168, 3) := by decide +kernel
theorem dX11_poke_67 : decode cX11_poke 67 = .ok (.istore 4, 2) := by decide +kernel
theorem dX11_poke_69 : decode cX11_poke 69 = .ok (.aload_n 0, 1) := by decide +kernel
theorem dX11_poke_70 : decode cX11_poke 70 = .ok (.getfield 63, 3) := by decide +kernel
theorem dX11_poke_73 : decode cX11_poke 73 = .ok (.invokevirtual 99, 3) := by decide +kernel
theorem dX11_poke_76 : decode cX11_poke 76 = .ok (.aload_n 0, 1) := by decide +kernel
theorem dX11_poke_77 : decode cX11_poke 77 = .ok (.getfield 53, 3) := by decide +kernel
theorem dX11_poke_80 : decode cX11_poke 80 = .ok (.getfield 144, 3) := by decide +kernel
theorem dX11_poke_83 : decode cX11_poke 83 = .ok (.iload_n 3, 1) := by decide +kernel
theorem dX11_poke_84 : decode cX11_poke 84 = .ok (.iload_n 2, 1) := by decide +kernel
theorem dX11_poke_85 : decode cX11_poke 85 = .ok (.invokestatic 229, 3) := by decide +kernel
theorem dX11_poke_88 : decode cX11_poke 88 = .ok (.iload 4, 2) := by decide +kernel
theorem dX11_poke_90 : decode cX11_poke 90 = .ok (.ireturn, 1) := by decide +kernel
theorem dX11_setRegister_0 : decode cX11_setRegister 0 = .ok (.iload_n 1, 1) := by decide +kernel
theorem dX11_setRegister_1 : decode cX11_setRegister 1 = .ok (.ifCond .lt 8, 3) := by decide +kernel
theorem dX11_setRegister_4 : decode cX11_setRegister 4 = .ok (.iload_n 1, 1) := by decide +kernel
theorem dX11_setRegister_5 : decode cX11_setRegister 5 = .ok (.iconst 4, 1) := by decide +kernel
theorem dX11_setRegister_6 : decode cX11_setRegister 6 = .ok (.if_icmp .le 13, 3) := by decide +kernel
theorem dX11_setRegister_9 : decode cX11_setRegister 9 = .ok (.new 160, 3) := by decide +kernel
theorem dX11_setRegister_12 : decode cX11_setRegister 12 = .ok (.dup, 1) := by decide +kernel
theorem dX11_setRegister_13 : decode cX11_setRegister 13 = .ok (.ldc 233, 2) := by decide +kernel
theorem dX11_setRegister_15 : decode cX11_setRegister 15 = .ok (.invokespecial 164, 3) := by decide +kernel
theorem dX11_setRegister_18 : decode cX11_setRegister 18 = .ok (.athrow, 1) := by decide +kernel
theorem dX11_setRegister_19 : decode cX11_setRegister 19 = .ok (.iload_n 1, 1) := by decide +kernel
theorem dX11_setRegister_20 : decode cX11_setRegister 20 = .ok (.iconst 4, 1) := by decide +kernel
theorem dX11_setRegister_21 : decode cX11_setRegister 21 = .ok (.if_icmp .ne 9, 3) := by decide +kernel
theorem dX11_setRegister_24 : decode cX11_setRegister 24 = .ok (.sipush 4095, 3) := by decide +kernel
theorem dX11_setRegister_27 : decode cX11_setRegister 27 = .ok (.goto 16, 3) := by decide +kernel
theorem dX11_setRegister_30 : decode cX11_setRegister 30 = .ok (.iload_n 1, 1) := by decide +kernel
theorem dX11_setRegister_31 : decode cX11_setRegister 31 = .ok (.iconst 3, 1) := by decide +kernel
theorem dX11_setRegister_32 : decode cX11_setRegister 32 = .ok (.if_icmp .ne 8, 3) := by decide +kernel
theorem dX11_setRegister_35 : decode cX11_setRegister 35 = .ok (.bipush 31, 2) := by decide +kernel
theorem dX11_setRegister_37 : decode cX11_setRegister 37 = .ok (.goto 6, 3) := by decide +kernel
theorem dX11_setRegister_40 : decode cX11_setRegister 40 = .ok (.sipush 255, 3) := by decide +kernel
theorem dX11_setRegister_43 : decode cX11_setRegister 43 = .ok (.istore_n 3, 1) := by decide +kernel
theorem dX11_setRegister_44 : decode cX11_setRegister 44 = .ok (.iload_n 2, 1) := by decide +kernel
theorem dX11_setRegister_45 : decode cX11_setRegister 45 = .ok (.ifCond .lt 8, 3) := by decide +kernel
theorem dX11_setRegister_48 : decode cX11_setRegister 48 = .ok (.iload_n 2, 1) := by decide +kernel
theorem dX11_setRegister_49 : decode cX11_setRegister 49 = .ok (.iload_n 3, 1) := by decide +kernel
theorem dX11_setRegister_50 : decode cX11_setRegister 50 = .ok (.if_icmp .le 13, 3) := by decide +kernel
theorem dX11_setRegister_53 : decode cX11_setRegister 53 = .ok (.new 102, 3) := by decide +kernel
theorem dX11_setRegister_56 : decode cX11_setRegister 56 = .ok (.dup, 1) := by decide +kernel
theorem dX11_setRegister_57 : decode cX11_setRegister 57 = .ok (.ldc 235, 2) := by decide +kernel
theorem dX11_setRegister_59 : decode cX11_setRegister 59 = .ok (.invokespecial 106, 3) := by decide +kernel
theorem dX11_setRegister_62 : decode cX11_setRegister 62 = .ok (.athrow, 1) := by decide +kernel
theorem dX11_setRegister_63 : decode cX11_setRegister 63 = .ok (.aload_n 0, 1) := by decide +kernel
theorem dX11_setRegister_64 : decode cX11_setRegister 64 = .ok (.getfield 63, 3) := by decide +kernel
theorem dX11_setRegister_67 : decode cX11_setRegister 67 = .ok (.invokevirtual 99, 3) := by decide +kernel
theorem dX11_setRegister_70 : decode cX11_setRegister 70 = .ok (.aload_n 0, 1) := by decide +kernel
theorem dX11_setRegister_71 : decode cX11_setRegister 71 = .ok (.getfield 53, 3) := by decide +kernel
theorem dX11_setRegister_74 : decode cX11_setRegister 74 = .ok (.iload_n 1, 1) := by decide +kernel
theorem dX11_setRegister_75 : decode cX11_setRegister 75 = .ok (.iload_n 2, 1) := by decide +kernel
theorem dX11_setRegister_76 : decode cX11_setRegister 76 = .ok (.invokevirtual 237, 3) := by decide +kernel
theorem dX11_setRegister_79 : decode cX11_setRegister 79 = .ok (.ireturn, 1) := by decide +kernel
theorem dX11_step_0 : decode cX11_step 0 = .ok (.aload_n 0, 1) := by decide +kernel
theorem dX11_step_1 : decode cX11_step 1 = .ok (.getfield 53, 3) := by decide +kernel
theorem dX11_step_4 : decode cX11_step 4 = .ok (.invokevirtual 240, 3) := by decide +kernel
theorem dX11_step_7 : decode cX11_step 7 = .ok (.ifCond .eq 5, 3) := by decide +kernel
theorem dX11_step_10 : decode cX11_step 10 = .ok (.iconst 0, 1) := by decide +kernel
theorem dX11_step_11 : decode cX11_step 11 = .ok (.ireturn, 1) := by decide +kernel
theorem dX11_step_12 : decode cX11_step 12 = .ok (.aload_n 0, 1) := by decide +kernel
theorem dX11_step_13 : decode cX11_step 13 = .ok (.getfield 63, 3) := by decide +kernel
theorem dX11_step_16 : decode cX11_step 16 = .ok (.aload_n 0, 1) := by decide +kernel
theorem dX11_step_17 : decode cX11_step 17 = .ok (.getfield 53, 3) := by decide +kernel
theorem dX11_step_20 : decode cX11_step 20 = .ok (.invokevirtual 243, 3) := by decide +kernel
theorem dX11_step_23 : decode cX11_step 23 = .ok (.aload_n 0, 1) := by decide +kernel
theorem dX11_step_24 : decode cX11_step 24 = .ok (.getfield 53, 3) := by decide +kernel
theorem dX11_step_27 : decode cX11_step 27 = .ok (.invokevirtual 247, 3) := by decide +kernel
theorem dX11_step_30 : decode cX11_step 30 = .ok (.ireturn, 1) := by decide +kernel
theorem dX11_run_0 : decode cX11_run 0 = .ok (.iload_n 1, 1) := by decide +kernel
theorem dX11_run_1 : decode cX11_run 1 = .ok (.invokestatic 250, 3) := by decide +kernel
theorem dX11_run_4 : decode cX11_run 4 = .ok (.ifCond .eq 13, 3) := by decide +kernel
theorem dX11_run_7 : decode cX11_run 7 = .ok (.new 102, 3) := by decide +kernel
theorem dX11_run_10 : decode cX11_run 10 = .ok (.dup, 1) := by decide +kernel
theorem dX11_run_11 : decode cX11_run 11 = .ok (.ldc 253, 2) := by decide +kernel
theorem dX11_run_13 : decode cX11_run 13 = .ok (.invokespecial 106, 3) := by decide +kernel
theorem dX11_run_16 : decode cX11_run 16 = .ok (.athrow, 1) := by decide +kernel
theorem dX11_run_17 : decode cX11_run 17 = .ok (.aload_n 0, 1) := by decide +kernel
theorem dX11_run_18 : decode cX11_run 18 = .ok (.iload_n 1, 1) := by decide +kernel
theorem dX11_run_19 : decode cX11_run 19 = .ok (.iconst (-1), 1) := by decide +kernel
theorem dX11_run_20 : decode cX11_run 20 = .ok (.invokevirtual 255, 3) := by decide +kernel
theorem dX11_run_23 : decode cX11_run 23 = .ok (.ireturn, 1) := by decide +kernel
theorem dX11_back_0 : decode cX11_back 0 = .ok (.iload_n 1, 1) := by decide +kernel
theorem dX11_back_1 : decode cX11_back 1 = .ok (.iconst 1, 1) := by decide +kernel
theorem dX11_back_2 : decode cX11_back 2 = .ok (.if_icmp .lt 10, 3) := by decide +kernel
theorem dX11_back_5 : decode cX11_back 5 = .ok (.iload_n 1, 1) := by decide +kernel
theorem dX11_back_6 : decode cX11_back 6 = .ok (.sipush 200, 3) := by decide +kernel
theorem dX11_back_9 : decode cX11_back 9 = .ok (.if_icmp .le 14, 3) := by decide +kernel
theorem dX11_back_12 : decode cX11_back 12 = .ok (.new 102, 3) := by decide +kernel
theorem dX11_back_15 : decode cX11_back 15 = .ok (.dup, 1) := by decide +kernel
theorem dX11_back_16 : decode cX11_back 16 = .ok (.ldc_w 271, 3) := by decide +kernel
theorem dX11_back_19 : decode cX11_back 19 = .ok (.invokespecial 106, 3) := by decide +kernel
theorem dX11_back_22 : decode cX11_back 22 = .ok (.athrow, 1) := by decide +kernel
theorem dX11_back_23 : decode cX11_back 23 = .ok (.aload_n 0, 1) := by decide +kernel
theorem dX11_back_24 : decode cX11_back 24 = .ok (.getfield 70, 3) := by decide +kernel
theorem dX11_back_27 : decode cX11_back 27 = .ok (.iconst 0, 1) := by decide +kernel
theorem dX11_back_28 : decode cX11_back 28 = .ok (.putfield 198, 3) := by decide +kernel
theorem dX11_back_31 : decode cX11_back 31 = .ok (.aload_n 0, 1) := by decide +kernel
theorem dX11_back_32 : decode cX11_back 32 = .ok (.getfield 63, 3) := by decide +kernel
theorem dX11_back_35 : decode cX11_back 35 = .ok (.aload_n 0, 1) := by decide +kernel
theorem dX11_back_36 : decode cX11_back 36 = .ok (.getfield 53, 3) := by decide +kernel
theorem dX11_back_39 : decode cX11_back 39 = .ok (.iload_n 1, 1) := by decide +kernel
theorem dX11_back_40 : decode cX11_back 40 = .ok (.invokevirtual 273, 3) := by decide +kernel
theorem dX11_back_43 : decode cX11_back 43 = .ok (.ireturn, 1) := by decide +kernel
theorem dX11_stopped_0 : decode cX11_stopped 0 = .ok (.aload_n 0, 1) := by decide +kernel
theorem dX11_stopped_1 : decode cX11_stopped 1 = .ok (.getfield 70, 3) := by decide +kernel
theorem dX11_stopped_4 : decode cX11_stopped 4 = .ok (.getfield 198, 3) := by decide +kernel
theorem dX11_stopped_7 : decode cX11_stopped 7 = .ok (.ireturn, 1) := by decide +kernel
theorem dX11_history_0 : decode cX11_history 0 = .ok (.aload_n 0, 1) := by decide +kernel
theorem dX11_history_1 : decode cX11_history 1 = .ok (.getfield 63, 3) := by decide +kernel
theorem dX11_history_4 : decode cX11_history 4 = .ok (.getfield 277, 3) := by decide +kernel
theorem dX11_history_7 : decode cX11_history 7 = .ok (.ireturn, 1) := by decide +kernel
theorem dX11_goOn_0 : decode cX11_goOn 0 = .ok (.iconst 0, 1) := by decide +kernel
theorem dX11_goOn_1 : decode cX11_goOn 1 = .ok (.istore_n 3, 1) := by decide +kernel
theorem dX11_goOn_2 : decode cX11_goOn 2 = .ok (.aload_n 0, 1) := by decide +kernel
theorem dX11_goOn_3 : decode cX11_goOn 3 = .ok (.getfield 53, 3) := by decide +kernel
theorem dX11_goOn_6 : decode cX11_goOn 6 = .ok (.invokevirtual 240, 3) := by decide +kernel
theorem dX11_goOn_9 : decode cX11_goOn 9 = .ok (.istore 4, 2) := by decide +kernel
theorem dX11_goOn_11 : decode cX11_goOn 11 = .ok (.iconst 0, 1) := by decide +kernel
theorem dX11_goOn_12 : decode cX11_goOn 12 = .ok (.istore 5, 2) := by decide +kernel
theorem dX11_goOn_14 : decode cX11_goOn 14 = .ok (.iload 5, 2) := by decide +kernel
theorem dX11_goOn_16 : decode cX11_goOn 16 = .ok (.ldc_w 307, 3) := by decide +kernel
theorem dX11_goOn_19 : decode cX11_goOn 19 = .ok (.if_icmp .ge 52, 3) := by decide +kernel
theorem dX11_goOn_22 : decode cX11_goOn 22 = .ok (.iload 4, 2) := by decide +kernel
theorem dX11_goOn_24 : decode cX11_goOn 24 = .ok (.ifCond .ne 47, 3) := by decide +kernel
theorem dX11_goOn_27 : decode cX11_goOn 27 = .ok (.aload_n 0, 1) := by decide +kernel
theorem dX11_goOn_28 : decode cX11_goOn 28 = .ok (.getfield 63, 3) := by decide +kernel
theorem dX11_goOn_31 : decode cX11_goOn 31 = .ok (.aload_n 0, 1) := by decide +kernel
theorem dX11_goOn_32 : decode cX11_goOn 32 = .ok (.getfield 53, 3) := by decide +kernel
theorem dX11_goOn_35 : decode cX11_goOn 35 = .ok (.invokevirtual 243, 3) := by decide +kernel
theorem dX11_goOn_38 : decode cX11_goOn 38 = .ok (.iload_n 3, 1) := by decide +kernel
theorem dX11_goOn_39 : decode cX11_goOn 39 = .ok (.aload_n 0, 1) := by decide +kernel
theorem dX11_goOn_40 : decode cX11_goOn 40 = .ok (.getfield 53, 3) := by decide +kernel
theorem dX11_goOn_43 : decode cX11_goOn 43 = .ok (.invokevirtual 247, 3) := by decide +kernel
theorem dX11_goOn_46 : decode cX11_goOn 46 = .ok (.iadd, 1) := by decide +kernel
theorem dX11_goOn_47 : decode cX11_goOn 47 = .ok (.istore_n 3, 1) := by decide +kernel
theorem dX11_goOn_48 : decode cX11_goOn 48 = .ok (.aload_n 0, 1) := by decide +kernel
theorem dX11_goOn_49 : decode cX11_goOn 49 = .ok (.iload_n 3, 1) := by decide +kernel
theorem dX11_goOn_50 : decode cX11_goOn 50 = .ok (.iload_n 1, 1) := by decide +kernel
theorem dX11_goOn_51 : decode cX11_goOn 51 = .ok (.if_icmp .lt 7, 3) := by decide +kernel
theorem dX11_goOn_54 : decode cX11_goOn 54 = .ok (.iconst 1, 1) := by decide +kernel
theorem dX11_goOn_55 : decode cX11_goOn 55 = .ok (.goto 4, 3) := by decide +kernel
theorem dX11_goOn_58 : decode cX11_goOn 58 = .ok (.iconst 0, 1) := by decide +kernel
theorem dX11_goOn_59 : decode cX11_goOn 59 = .ok (.iload_n 2, 1) := by decide +kernel
theorem dX11_goOn_60 : decode cX11_goOn 60 = .ok (.invokevirtual 308, 3) := by decide +kernel
theorem dX11_goOn_63 : decode cX11_goOn 63 = .ok (.istore 4, 2) := by decide +kernel
theorem dX11_goOn_65 : decode cX11_goOn 65 = .ok (.iinc 5 1, 3) := by decide +kernel
theorem dX11_goOn_68 : decode cX11_goOn 68 = .ok (.goto (-54), 3) := by decide +kernel
theorem dX11_goOn_71 : decode cX11_goOn 71 = .ok (.aload_n 0, 1) := by decide +kernel
theorem dX11_goOn_72 : decode cX11_goOn 72 = .ok (.getfield 70, 3) := by decide +kernel
theorem dX11_goOn_75 : decode cX11_goOn 75 = .ok (.iload 4, 2) := by decide +kernel
theorem dX11_goOn_77 : decode cX11_goOn 77 = .ok (.putfield 198, 3) := by decide +kernel
theorem dX11_goOn_80 : decode cX11_goOn 80 = .ok (.iload_n 3, 1) := by decide +kernel
theorem dX11_goOn_81 : decode cX11_goOn 81 = .ok (.ireturn, 1) := by decide +kernel
theorem dX11_reasonToStop_0 : decode cX11_reasonToStop 0 = .ok (.aload_n 0, 1) := by decide +kernel
theorem dX11_reasonToStop_1 : decode cX11_reasonToStop 1 = .ok (.getfield 53, 3) := by decide +kernel
theorem dX11_reasonToStop_4 : decode cX11_reasonToStop 4 = .ok (.invokevirtual 240, 3) := by decide +kernel
theorem dX11_reasonToStop_7 : decode cX11_reasonToStop 7 = .ok (.istore_n 3, 1) := by decide +kernel
theorem dX11_reasonToStop_8 : decode cX11_reasonToStop 8 = .ok (.iload_n 3, 1) := by decide +kernel
theorem dX11_reasonToStop_9 : decode cX11_reasonToStop 9 = .ok (.ifCond .eq 5, 3) := by decide +kernel
theorem dX11_reasonToStop_12 : decode cX11_reasonToStop 12 = .ok (.iload_n 3, 1) := by decide +kernel
theorem dX11_reasonToStop_13 : decode cX11_reasonToStop 13 = .ok (.ireturn, 1) := by decide +kernel
theorem dX11_reasonToStop_14 : decode cX11_reasonToStop 14 = .ok (.aload_n 0, 1) := by decide +kernel
theorem dX11_reasonToStop_15 : decode cX11_reasonToStop 15 = .ok (.getfield 53, 3) := by decide +kernel
theorem dX11_reasonToStop_18 : decode cX11_reasonToStop 18 = .ok (.getfield 265, 3) := by decide +kernel
theorem dX11_reasonToStop_21 : decode cX11_reasonToStop 21 = .ok (.iload_n 2, 1) := by decide +kernel
theorem dX11_reasonToStop_22 : decode cX11_reasonToStop 22 = .ok (.if_icmp .gt 6, 3) := by decide +kernel
theorem dX11_reasonToStop_25 : decode cX11_reasonToStop 25 = .ok (.bipush 6, 2) := by decide +kernel
theorem dX11_reasonToStop_27 : decode cX11_reasonToStop 27 = .ok (.ireturn, 1) := by decide +kernel
theorem dX11_reasonToStop_28 : decode cX11_reasonToStop 28 = .ok (.aload_n 0, 1) := by decide +kernel
theorem dX11_reasonToStop_29 : decode cX11_reasonToStop 29 = .ok (.getfield 70, 3) := by decide +kernel
theorem dX11_reasonToStop_32 : decode cX11_reasonToStop 32 = .ok (.aload_n 0, 1) := by decide +kernel
theorem dX11_reasonToStop_33 : decode cX11_reasonToStop 33 = .ok (.getfield 53, 3) := by decide +kernel
theorem dX11_reasonToStop_36 : decode cX11_reasonToStop 36 = .ok (.invokevirtual 312, 3) := by decide +kernel
theorem dX11_reasonToStop_39 : decode cX11_reasonToStop 39 = .ok (.ifCond .eq 5, 3) := by decide +kernel
theorem dX11_reasonToStop_42 : decode cX11_reasonToStop 42 = .ok (.iconst 3, 1) := by decide +kernel
theorem dX11_reasonToStop_43 : decode cX11_reasonToStop 43 = .ok (.ireturn, 1) := by decide +kernel
theorem dX11_reasonToStop_44 : decode cX11_reasonToStop 44 = .ok (.iload_n 1, 1) := by decide +kernel
theorem dX11_reasonToStop_45 : decode cX11_reasonToStop 45 = .ok (.ifCond .eq 5, 3) := by decide +kernel
theorem dX11_reasonToStop_48 : decode cX11_reasonToStop 48 = .ok (.iconst 1, 1) := by decide +kernel
theorem dX11_reasonToStop_49 : decode cX11_reasonToStop 49 = .ok (.ireturn, 1) := by decide +kernel
theorem dX11_reasonToStop_50 : decode cX11_reasonToStop 50 = .ok (.aload_n 0, 1) := by decide +kernel
theorem dX11_reasonToStop_51 : decode cX11_reasonToStop 51 = .ok (.getfield 53, 3) := by decide +kernel
theorem dX11_reasonToStop_54 : decode cX11_reasonToStop 54 = .ok (.invokevirtual 258, 3) := by decide +kernel
theorem dX11_reasonToStop_57 : decode cX11_reasonToStop 57 = .ok (.ifCond .eq 24, 3) := by decide +kernel
theorem dX11_reasonToStop_60 : decode cX11_reasonToStop 60 = .ok (.aload_n 0, 1) := by decide +kernel
theorem dX11_reasonToStop_61 : decode cX11_reasonToStop 61 = .ok (.getfield 70, 3) := by decide +kernel
theorem dX11_reasonToStop_64 : decode cX11_reasonToStop 64 = .ok (.aload_n 0, 1) := by decide +kernel
theorem dX11_reasonToStop_65 : decode cX11_reasonToStop 65 = .ok (.getfield 53, 3) := by decide +kernel
theorem dX11_reasonToStop_68 : decode cX11_reasonToStop 68 = .ok (.getfield 201, 3) := by decide +kernel
theorem dX11_reasonToStop_71 : decode cX11_reasonToStop 71 = .ok (.invokevirtual 316, 3) := by decide +kernel
theorem dX11_reasonToStop_74 : decode cX11_reasonToStop 74 = .ok (.ifCond .eq 7, 3) := by decide +kernel
theorem dX11_reasonToStop_77 : decode cX11_reasonToStop 77 = .ok (.iconst 2, 1) := by decide +kernel
theorem dX11_reasonToStop_78 : decode cX11_reasonToStop 78 = .ok (.goto 4, 3) := by decide +kernel
theorem dX11_reasonToStop_81 : decode cX11_reasonToStop 81 = .ok (.iconst 0, 1) := by decide +kernel
theorem dX11_reasonToStop_82 : decode cX11_reasonToStop 82 = .ok (.ireturn, 1) := by decide +kernel
theorem dX11_a_0 : decode cX11_a 0 = .ok (.aload_n 0, 1) := by decide +kernel
theorem dX11_a_1 : decode cX11_a 1 = .ok (.getfield 53, 3) := by decide +kernel
theorem dX11_a_4 : decode cX11_a 4 = .ok (.getfield 319, 3) := by decide +kernel
theorem dX11_a_7 : decode cX11_a 7 = .ok (.ireturn, 1) := by decide +kernel
theorem dX11_x_0 : decode cX11_x 0 = .ok (.aload_n 0, 1) := by decide +kernel
theorem dX11_x_1 : decode cX11_x 1 = .ok (.getfield 53, 3) := by decide +kernel
theorem dX11_x_4 : decode cX11_x 4 = .ok (.getfield 322, 3) := by decide +kernel
theorem dX11_x_7 : decode cX11_x 7 = .ok (.ireturn, 1) := by decide +kernel
theorem dX11_s_0 : decode cX11_s 0 = .ok (.aload_n 0, 1) := by decide +kernel
theorem dX11_s_1 : decode cX11_s 1 = .ok (.getfield 53, 3) := by decide +kernel
theorem dX11_s_4 : decode cX11_s 4 = .ok (.getfield 325, 3) := by decide +kernel
theorem dX11_s_7 : decode cX11_s 7 = .ok (.ireturn, 1) := by decide +kernel
theorem dX11_flags_0 : decode cX11_flags 0 = .ok (.aload_n 0, 1) := by decide +kernel
theorem dX11_flags_1 : decode cX11_flags 1 = .ok (.getfield 53, 3) := by decide +kernel
theorem dX11_flags_4 : decode cX11_flags 4 = .ok (.getfield 328, 3) := by decide +kernel
theorem dX11_flags_7 : decode cX11_flags 7 = .ok (.ireturn, 1) := by decide +kernel
theorem dX11_pc_0 : decode cX11_pc 0 = .ok (.aload_n 0, 1) := by decide +kernel
theorem dX11_pc_1 : decode cX11_pc 1 = .ok (.getfield 53, 3) := by decide +kernel
theorem dX11_pc_4 : decode cX11_pc 4 = .ok (.getfield 201, 3) := by decide +kernel
theorem dX11_pc_7 : decode cX11_pc 7 = .ok (.ireturn, 1) := by decide +kernel
theorem dX11_state_0 : decode cX11_state 0 = .ok (.aload_n 0, 1) := by decide +kernel
theorem dX11_state_1 : decode cX11_state 1 = .ok (.getfield 53, 3) := by decide +kernel
theorem dX11_state_4 : decode cX11_state 4 = .ok (.getfield 331, 3) := by decide +kernel
theorem dX11_state_7 : decode cX11_state 7 = .ok (.ireturn, 1) := by decide +kernel
theorem dX11_cycles_0 : decode cX11_cycles 0 = .ok (.aload_n 0, 1) := by decide +kernel
theorem dX11_cycles_1 : decode cX11_cycles 1 = .ok (.getfield 53, 3) := by decide +kernel
theorem dX11_cycles_4 : decode cX11_cycles 4 = .ok (.getfield 334, 3) := by decide +kernel
theorem dX11_cycles_7 : decode cX11_cycles 7 = .ok (.ireturn, 1) := by decide +kernel
theorem dX11_instructions_0 : decode cX11_instructions 0 = .ok (.aload_n 0, 1) := by decide +kernel
theorem dX11_instructions_1 : decode cX11_instructions 1 = .ok (.getfield 53, 3) := by decide +kernel
theorem dX11_instructions_4 : decode cX11_instructions 4 = .ok (.getfield 337, 3) := by decide +kernel
theorem dX11_instructions_7 : decode cX11_instructions 7 = .ok (.ireturn, 1) := by decide +kernel
theorem dX11_byteAt_0 : decode cX11_byteAt 0 = .ok (.iload_n 1, 1) := by decide +kernel
theorem dX11_byteAt_1 : decode cX11_byteAt 1 = .ok (.invokestatic 172, 3) := by decide +kernel
theorem dX11_byteAt_4 : decode cX11_byteAt 4 = .ok (.ifCond .eq 13, 3) := by decide +kernel
theorem dX11_byteAt_7 : decode cX11_byteAt 7 = .ok (.new 102, 3) := by decide +kernel
theorem dX11_byteAt_10 : decode cX11_byteAt 10 = .ok (.dup, 1) := by decide +kernel
theorem dX11_byteAt_11 : decode cX11_byteAt 11 = .ok (.ldc 176, 2) := by decide +kernel
theorem dX11_byteAt_13 : decode cX11_byteAt 13 = .ok (.invokespecial 106, 3) := by decide +kernel
theorem dX11_byteAt_16 : decode cX11_byteAt 16 = .ok (.athrow, 1) := by decide +kernel
theorem dX11_byteAt_17 : decode cX11_byteAt 17 = .ok (.aload_n 0, 1) := by decide +kernel
theorem dX11_byteAt_18 : decode cX11_byteAt 18 = .ok (.getfield 53, 3) := by decide +kernel
theorem dX11_byteAt_21 : decode cX11_byteAt 21 = .ok (.iload_n 1, 1) := by decide +kernel
theorem dX11_byteAt_22 : decode cX11_byteAt 22 = .ok (.invokevirtual 340, 3) := by decide +kernel
theorem dX11_byteAt_25 : decode cX11_byteAt 25 = .ok (.ireturn, 1) := by decide +kernel
theorem dX11_bank_0 : decode cX11_bank 0 = .ok (.aload_n 0, 1) := by decide +kernel
theorem dX11_bank_1 : decode cX11_bank 1 = .ok (.getfield 53, 3) := by decide +kernel
theorem dX11_bank_4 : decode cX11_bank 4 = .ok (.getfield 185, 3) := by decide +kernel
theorem dX11_bank_7 : decode cX11_bank 7 = .ok (.getfield 189, 3) := by decide +kernel
theorem dX11_bank_10 : decode cX11_bank 10 = .ok (.ireturn, 1) := by decide +kernel
theorem dX11_mask_0 : decode cX11_mask 0 = .ok (.aload_n 0, 1) := by decide +kernel
theorem dX11_mask_1 : decode cX11_mask 1 = .ok (.getfield 53, 3) := by decide +kernel
theorem dX11_mask_4 : decode cX11_mask 4 = .ok (.getfield 185, 3) := by decide +kernel
theorem dX11_mask_7 : decode cX11_mask 7 = .ok (.getfield 347, 3) := by decide +kernel
theorem dX11_mask_10 : decode cX11_mask 10 = .ok (.ireturn, 1) := by decide +kernel
theorem dX11_pending_0 : decode cX11_pending 0 = .ok (.aload_n 0, 1) := by decide +kernel
theorem dX11_pending_1 : decode cX11_pending 1 = .ok (.getfield 53, 3) := by decide +kernel
theorem dX11_pending_4 : decode cX11_pending 4 = .ok (.getfield 185, 3) := by decide +kernel
theorem dX11_pending_7 : decode cX11_pending 7 = .ok (.getfield 217, 3) := by decide +kernel
theorem dX11_pending_10 : decode cX11_pending 10 = .ok (.ireturn, 1) := by decide +kernel
theorem dX11_count_0 : decode cX11_count 0 = .ok (.aload_n 0, 1) := by decide +kernel
theorem dX11_count_1 : decode cX11_count 1 = .ok (.getfield 53, 3) := by decide +kernel
theorem dX11_count_4 : decode cX11_count 4 = .ok (.getfield 185, 3) := by decide +kernel
theorem dX11_count_7 : decode cX11_count 7 = .ok (.getfield 350, 3) := by decide +kernel
theorem dX11_count_10 : decode cX11_count 10 = .ok (.ireturn, 1) := by decide +kernel
theorem dX11_inputs_0 : decode cX11_inputs 0 = .ok (.aload_n 0, 1) := by decide +kernel
theorem dX11_inputs_1 : decode cX11_inputs 1 = .ok (.getfield 53, 3) := by decide +kernel
theorem dX11_inputs_4 : decode cX11_inputs 4 = .ok (.getfield 185, 3) := by decide +kernel
theorem dX11_inputs_7 : decode cX11_inputs 7 = .ok (.getfield 209, 3) := by decide +kernel
theorem dX11_inputs_10 : decode cX11_inputs 10 = .ok (.ireturn, 1) := by decide +kernel
theorem dX11_outputs_0 : decode cX11_outputs 0 = .ok (.aload_n 0, 1) := by decide +kernel
theorem dX11_outputs_1 : decode cX11_outputs 1 = .ok (.getfield 53, 3) := by decide +kernel
theorem dX11_outputs_4 : decode cX11_outputs 4 = .ok (.getfield 185, 3) := by decide +kernel
theorem dX11_outputs_7 : decode cX11_outputs 7 = .ok (.getfield 353, 3) := by decide +kernel
theorem dX11_outputs_10 : decode cX11_outputs 10 = .ok (.ireturn, 1) := by decide +kernel
theorem dX11_calls_0 : decode cX11_calls 0 = .ok (.aload_n 0, 1) := by decide +kernel
theorem dX11_calls_1 : decode cX11_calls 1 = .ok (.getfield 53, 3) := by decide +kernel
theorem dX11_calls_4 : decode cX11_calls 4 = .ok (.getfield 265, 3) := by decide +kernel
theorem dX11_calls_7 : decode cX11_calls 7 = .ok (.ireturn, 1) := by decide +kernel
theorem dX11_timesAt_0 : decode cX11_timesAt 0 = .ok (.iload_n 1, 1) := by decide +kernel
theorem dX11_timesAt_1 : decode cX11_timesAt 1 = .ok (.invokestatic 172, 3) := by decide +kernel
theorem dX11_timesAt_4 : decode cX11_timesAt 4 = .ok (.ifCond .eq 13, 3) := by decide +kernel
theorem dX11_timesAt_7 : decode cX11_timesAt 7 = .ok (.new 102, 3) := by decide +kernel
theorem dX11_timesAt_10 : decode cX11_timesAt 10 = .ok (.dup, 1) := by decide +kernel
theorem dX11_timesAt_11 : decode cX11_timesAt 11 = .ok (.ldc 176, 2) := by decide +kernel
theorem dX11_timesAt_13 : decode cX11_timesAt 13 = .ok (.invokespecial 106, 3) := by decide +kernel
theorem dX11_timesAt_16 : decode cX11_timesAt 16 = .ok (.athrow, 1) := by decide +kernel
theorem dX11_timesAt_17 : decode cX11_timesAt 17 = .ok (.aload_n 0, 1) := by decide +kernel
theorem dX11_timesAt_18 : decode cX11_timesAt 18 = .ok (.getfield 53, 3) := by decide +kernel
theorem dX11_timesAt_21 : decode cX11_timesAt 21 = .ok (.getfield 369, 3) := by decide +kernel
theorem dX11_timesAt_24 : decode cX11_timesAt 24 = .ok (.iload_n 1, 1) := by decide +kernel
theorem dX11_timesAt_25 : decode cX11_timesAt 25 = .ok (.invokestatic 168, 3) := by decide +kernel
theorem dX11_timesAt_28 : decode cX11_timesAt 28 = .ok (.ireturn, 1) := by decide +kernel
theorem dX11_hottest_0 : decode cX11_hottest 0 = .ok (.aload_n 0, 1) := by decide +kernel
theorem dX11_hottest_1 : decode cX11_hottest 1 = .ok (.getfield 53, 3) := by decide +kernel
theorem dX11_hottest_4 : decode cX11_hottest 4 = .ok (.invokevirtual 372, 3) := by decide +kernel
theorem dX11_hottest_7 : decode cX11_hottest 7 = .ok (.ireturn, 1) := by decide +kernel
theorem dX11_operandAt_0 : decode cX11_operandAt 0 = .ok (.iload_n 1, 1) := by decide +kernel
theorem dX11_operandAt_1 : decode cX11_operandAt 1 = .ok (.invokestatic 172, 3) := by decide +kernel
theorem dX11_operandAt_4 : decode cX11_operandAt 4 = .ok (.ifCond .eq 13, 3) := by decide +kernel
theorem dX11_operandAt_7 : decode cX11_operandAt 7 = .ok (.new 102, 3) := by decide +kernel
theorem dX11_operandAt_10 : decode cX11_operandAt 10 = .ok (.dup, 1) := by decide +kernel
theorem dX11_operandAt_11 : decode cX11_operandAt 11 = .ok (.ldc 176, 2) := by decide +kernel
theorem dX11_operandAt_13 : decode cX11_operandAt 13 = .ok (.invokespecial 106, 3) := by decide +kernel
theorem dX11_operandAt_16 : decode cX11_operandAt 16 = .ok (.athrow, 1) := by decide +kernel
theorem dX11_operandAt_17 : decode cX11_operandAt 17 = .ok (.aload_n 0, 1) := by decide +kernel
theorem dX11_operandAt_18 : decode cX11_operandAt 18 = .ok (.getfield 53, 3) := by decide +kernel
theorem dX11_operandAt_21 : decode cX11_operandAt 21 = .ok (.iload_n 1, 1) := by decide +kernel
theorem dX11_operandAt_22 : decode cX11_operandAt 22 = .ok (.invokevirtual 378, 3) := by decide +kernel
theorem dX11_operandAt_25 : decode cX11_operandAt 25 = .ok (.ireturn, 1) := by decide +kernel
theorem dX11_cyclesToHalt_0 : decode cX11_cyclesToHalt 0 = .ok (.iload_n 1, 1) := by decide +kernel
theorem dX11_cyclesToHalt_1 : decode cX11_cyclesToHalt 1 = .ok (.invokestatic 250, 3) := by decide +kernel
theorem dX11_cyclesToHalt_4 : decode cX11_cyclesToHalt 4 = .ok (.ifCond .eq 13, 3) := by decide +kernel
theorem dX11_cyclesToHalt_7 : decode cX11_cyclesToHalt 7 = .ok (.new 102, 3) := by decide +kernel
theorem dX11_cyclesToHalt_10 : decode cX11_cyclesToHalt 10 = .ok (.dup, 1) := by decide +kernel
theorem dX11_cyclesToHalt_11 : decode cX11_cyclesToHalt 11 = .ok (.ldc 253, 2) := by decide +kernel
theorem dX11_cyclesToHalt_13 : decode cX11_cyclesToHalt 13 = .ok (.invokespecial 106, 3) := by decide +kernel
theorem dX11_cyclesToHalt_16 : decode cX11_cyclesToHalt 16 = .ok (.athrow, 1) := by decide +kernel
theorem dX11_cyclesToHalt_17 : decode cX11_cyclesToHalt 17 = .ok (.aload_n 0, 1) := by decide +kernel
theorem dX11_cyclesToHalt_18 : decode cX11_cyclesToHalt 18 = .ok (.getfield 57, 3) := by decide +kernel
theorem dX11_cyclesToHalt_21 : decode cX11_cyclesToHalt 21 = .ok (.aload_n 0, 1) := by decide +kernel
theorem dX11_cyclesToHalt_22 : decode cX11_cyclesToHalt 22 = .ok (.getfield 53, 3) := by decide +kernel
theorem dX11_cyclesToHalt_25 : decode cX11_cyclesToHalt 25 = .ok (.invokevirtual 381, 3) := by decide +kernel
theorem dX11_cyclesToHalt_28 : decode cX11_cyclesToHalt 28 = .ok (.iconst 0, 1) := by decide +kernel
theorem dX11_cyclesToHalt_29 : decode cX11_cyclesToHalt 29 = .ok (.istore_n 2, 1) := by decide +kernel
theorem dX11_cyclesToHalt_30 : decode cX11_cyclesToHalt 30 = .ok (.iconst 0, 1) := by decide +kernel
theorem dX11_cyclesToHalt_31 : decode cX11_cyclesToHalt 31 = .ok (.istore_n 3, 1) := by decide +kernel
theorem dX11_cyclesToHalt_32 : decode cX11_cyclesToHalt 32 = .ok (.iload_n 3, 1) := by decide +kernel
theorem dX11_cyclesToHalt_33 : decode cX11_cyclesToHalt 33 = .ok (.ldc_w 307, 3) := by decide +kernel
theorem dX11_cyclesToHalt_36 : decode cX11_cyclesToHalt 36 = .ok (.if_icmp .ge 34, 3) := by decide +kernel
theorem dX11_cyclesToHalt_39 : decode cX11_cyclesToHalt 39 = .ok (.iload_n 2, 1) := by decide +kernel
theorem dX11_cyclesToHalt_40 : decode cX11_cyclesToHalt 40 = .ok (.iload_n 1, 1) := by decide +kernel
theorem dX11_cyclesToHalt_41 : decode cX11_cyclesToHalt 41 = .ok (.if_icmp .ge 29, 3) := by decide +kernel
theorem dX11_cyclesToHalt_44 : decode cX11_cyclesToHalt 44 = .ok (.aload_n 0, 1) := by decide +kernel
theorem dX11_cyclesToHalt_45 : decode cX11_cyclesToHalt 45 = .ok (.getfield 57, 3) := by decide +kernel
theorem dX11_cyclesToHalt_48 : decode cX11_cyclesToHalt 48 = .ok (.invokevirtual 240, 3) := by decide +kernel
theorem dX11_cyclesToHalt_51 : decode cX11_cyclesToHalt 51 = .ok (.ifCond .ne 19, 3) := by decide +kernel
theorem dX11_cyclesToHalt_54 : decode cX11_cyclesToHalt 54 = .ok (.iload_n 2, 1) := by decide +kernel
theorem dX11_cyclesToHalt_55 : decode cX11_cyclesToHalt 55 = .ok (.aload_n 0, 1) := by decide +kernel
theorem dX11_cyclesToHalt_56 : decode cX11_cyclesToHalt 56 = .ok (.getfield 57, 3) := by decide +kernel
theorem dX11_cyclesToHalt_59 : decode cX11_cyclesToHalt 59 = .ok (.invokevirtual 247, 3) := by decide +kernel
theorem dX11_cyclesToHalt_62 : decode cX11_cyclesToHalt 62 = .ok (.iadd, 1) := by decide +kernel
theorem dX11_cyclesToHalt_63 : decode cX11_cyclesToHalt 63 = .ok (.istore_n 2, 1) := by decide +kernel
theorem dX11_cyclesToHalt_64 : decode cX11_cyclesToHalt 64 = .ok (.iinc 3 1, 3) := by decide +kernel
theorem dX11_cyclesToHalt_67 : decode cX11_cyclesToHalt 67 = .ok (.goto (-35), 3) := by decide +kernel
theorem dX11_cyclesToHalt_70 : decode cX11_cyclesToHalt 70 = .ok (.aload_n 0, 1) := by decide +kernel
theorem dX11_cyclesToHalt_71 : decode cX11_cyclesToHalt 71 = .ok (.getfield 57, 3) := by decide +kernel
theorem dX11_cyclesToHalt_74 : decode cX11_cyclesToHalt 74 = .ok (.invokevirtual 240, 3) := by decide +kernel
theorem dX11_cyclesToHalt_77 : decode cX11_cyclesToHalt 77 = .ok (.ifCond .eq 7, 3) := by decide +kernel
theorem dX11_cyclesToHalt_80 : decode cX11_cyclesToHalt 80 = .ok (.iload_n 2, 1) := by decide +kernel
theorem dX11_cyclesToHalt_81 : decode cX11_cyclesToHalt 81 = .ok (.goto 4, 3) := by decide +kernel
theorem dX11_cyclesToHalt_84 : decode cX11_cyclesToHalt 84 = .ok (.iconst (-1), 1) := by decide +kernel
theorem dX11_cyclesToHalt_85 : decode cX11_cyclesToHalt 85 = .ok (.ireturn, 1) := by decide +kernel
theorem dX11_cyclesToReach_0 : decode cX11_cyclesToReach 0 = .ok (.iload_n 1, 1) := by decide +kernel
theorem dX11_cyclesToReach_1 : decode cX11_cyclesToReach 1 = .ok (.invokestatic 172, 3) := by decide +kernel
theorem dX11_cyclesToReach_4 : decode cX11_cyclesToReach 4 = .ok (.ifCond .eq 13, 3) := by decide +kernel
theorem dX11_cyclesToReach_7 : decode cX11_cyclesToReach 7 = .ok (.new 102, 3) := by decide +kernel
theorem dX11_cyclesToReach_10 : decode cX11_cyclesToReach 10 = .ok (.dup, 1) := by decide +kernel
theorem dX11_cyclesToReach_11 : decode cX11_cyclesToReach 11 = .ok (.ldc 176, 2) := by decide +kernel
theorem dX11_cyclesToReach_13 : decode cX11_cyclesToReach 13 = .ok (.invokespecial 106, 3) := by decide +kernel
theorem dX11_cyclesToReach_16 : decode cX11_cyclesToReach 16 = .ok (.athrow, 1) := by decide +kernel
theorem dX11_cyclesToReach_17 : decode cX11_cyclesToReach 17 = .ok (.iload_n 2, 1) := by decide +kernel
theorem dX11_cyclesToReach_18 : decode cX11_cyclesToReach 18 = .ok (.invokestatic 250, 3) := by decide +kernel
theorem dX11_cyclesToReach_21 : decode cX11_cyclesToReach 21 = .ok (.ifCond .eq 13, 3) := by decide +kernel
theorem dX11_cyclesToReach_24 : decode cX11_cyclesToReach 24 = .ok (.new 102, 3) := by decide +kernel
theorem dX11_cyclesToReach_27 : decode cX11_cyclesToReach 27 = .ok (.dup, 1) := by decide +kernel
theorem dX11_cyclesToReach_28 : decode cX11_cyclesToReach 28 = .ok (.ldc 253, 2) := by decide +kernel
theorem dX11_cyclesToReach_30 : decode cX11_cyclesToReach 30 = .ok (.invokespecial 106, 3) := by decide +kernel
theorem dX11_cyclesToReach_33 : decode cX11_cyclesToReach 33 = .ok (.athrow, 1) := by decide +kernel
theorem dX11_cyclesToReach_34 : decode cX11_cyclesToReach 34 = .ok (.aload_n 0, 1) := by decide +kernel
theorem dX11_cyclesToReach_35 : decode cX11_cyclesToReach 35 = .ok (.getfield 57, 3) := by decide +kernel
theorem dX11_cyclesToReach_38 : decode cX11_cyclesToReach 38 = .ok (.aload_n 0, 1) := by decide +kernel
theorem dX11_cyclesToReach_39 : decode cX11_cyclesToReach 39 = .ok (.getfield 53, 3) := by decide +kernel
theorem dX11_cyclesToReach_42 : decode cX11_cyclesToReach 42 = .ok (.invokevirtual 381, 3) := by decide +kernel
theorem dX11_cyclesToReach_45 : decode cX11_cyclesToReach 45 = .ok (.iconst 0, 1) := by decide +kernel
theorem dX11_cyclesToReach_46 : decode cX11_cyclesToReach 46 = .ok (.istore_n 3, 1) := by decide +kernel
theorem dX11_cyclesToReach_47 : decode cX11_cyclesToReach 47 = .ok (.aload_n 0, 1) := by decide +kernel
theorem dX11_cyclesToReach_48 : decode cX11_cyclesToReach 48 = .ok (.getfield 57, 3) := by decide +kernel
theorem dX11_cyclesToReach_51 : decode cX11_cyclesToReach 51 = .ok (.iload_n 1, 1) := by decide +kernel
theorem dX11_cyclesToReach_52 : decode cX11_cyclesToReach 52 = .ok (.invokevirtual 384, 3) := by decide +kernel
theorem dX11_cyclesToReach_55 : decode cX11_cyclesToReach 55 = .ok (.istore 4, 2) := by decide +kernel
theorem dX11_cyclesToReach_57 : decode cX11_cyclesToReach 57 = .ok (.iconst 0, 1) := by decide +kernel
theorem dX11_cyclesToReach_58 : decode cX11_cyclesToReach 58 = .ok (.istore 5, 2) := by decide +kernel
theorem dX11_cyclesToReach_60 : decode cX11_cyclesToReach 60 = .ok (.iload 5, 2) := by decide +kernel
theorem dX11_cyclesToReach_62 : decode cX11_cyclesToReach 62 = .ok (.ldc_w 307, 3) := by decide +kernel
theorem dX11_cyclesToReach_65 : decode cX11_cyclesToReach 65 = .ok (.if_icmp .ge 49, 3) := by decide +kernel
theorem dX11_cyclesToReach_68 : decode cX11_cyclesToReach 68 = .ok (.iload 4, 2) := by decide +kernel
theorem dX11_cyclesToReach_70 : decode cX11_cyclesToReach 70 = .ok (.ifCond .ne 44, 3) := by decide +kernel
theorem dX11_cyclesToReach_73 : decode cX11_cyclesToReach 73 = .ok (.iload_n 3, 1) := by decide +kernel
theorem dX11_cyclesToReach_74 : decode cX11_cyclesToReach 74 = .ok (.iload_n 2, 1) := by decide +kernel
theorem dX11_cyclesToReach_75 : decode cX11_cyclesToReach 75 = .ok (.if_icmp .ge 39, 3) := by decide +kernel
theorem dX11_cyclesToReach_78 : decode cX11_cyclesToReach 78 = .ok (.aload_n 0, 1) := by decide +kernel
theorem dX11_cyclesToReach_79 : decode cX11_cyclesToReach 79 = .ok (.getfield 57, 3) := by decide +kernel
theorem dX11_cyclesToReach_82 : decode cX11_cyclesToReach 82 = .ok (.invokevirtual 240, 3) := by decide +kernel
theorem dX11_cyclesToReach_85 : decode cX11_cyclesToReach 85 = .ok (.ifCond .ne 29, 3) := by decide +kernel
theorem dX11_cyclesToReach_88 : decode cX11_cyclesToReach 88 = .ok (.iload_n 3, 1) := by decide +kernel
theorem dX11_cyclesToReach_89 : decode cX11_cyclesToReach 89 = .ok (.aload_n 0, 1) := by decide +kernel
theorem dX11_cyclesToReach_90 : decode cX11_cyclesToReach 90 = .ok (.getfield 57, 3) := by decide +kernel
theorem dX11_cyclesToReach_93 : decode cX11_cyclesToReach 93 = .ok (.invokevirtual 247, 3) := by decide +kernel
theorem dX11_cyclesToReach_96 : decode cX11_cyclesToReach 96 = .ok (.iadd, 1) := by decide +kernel
theorem dX11_cyclesToReach_97 : decode cX11_cyclesToReach 97 = .ok (.istore_n 3, 1) := by decide +kernel
theorem dX11_cyclesToReach_98 : decode cX11_cyclesToReach 98 = .ok (.aload_n 0, 1) := by decide +kernel
theorem dX11_cyclesToReach_99 : decode cX11_cyclesToReach 99 = .ok (.getfield 57, 3) := by decide +kernel
theorem dX11_cyclesToReach_102 : decode cX11_cyclesToReach 102 = .ok (.iload_n 1, 1) := by decide +kernel
theorem dX11_cyclesToReach_103 : decode cX11_cyclesToReach 103 = .ok (.invokevirtual 384, 3) := by decide +kernel
theorem dX11_cyclesToReach_106 : decode cX11_cyclesToReach 106 = .ok (.istore 4, 2) := by decide +kernel
theorem dX11_cyclesToReach_108 : decode cX11_cyclesToReach 108 = .ok (.iinc 5 1, 3) := by decide +kernel
theorem dX11_cyclesToReach_111 : decode cX11_cyclesToReach 111 = .ok (.goto (-51), 3) := by decide +kernel
theorem dX11_cyclesToReach_114 : decode cX11_cyclesToReach 114 = .ok (.iload 4, 2) := by decide +kernel
theorem dX11_cyclesToReach_116 : decode cX11_cyclesToReach 116 = .ok (.ifCond .eq 7, 3) := by decide +kernel
theorem dX11_cyclesToReach_119 : decode cX11_cyclesToReach 119 = .ok (.iload_n 3, 1) := by decide +kernel
theorem dX11_cyclesToReach_120 : decode cX11_cyclesToReach 120 = .ok (.goto 4, 3) := by decide +kernel
theorem dX11_cyclesToReach_123 : decode cX11_cyclesToReach 123 = .ok (.iconst (-1), 1) := by decide +kernel
theorem dX11_cyclesToReach_124 : decode cX11_cyclesToReach 124 = .ok (.ireturn, 1) := by decide +kernel
theorem dX11_outputsIn_0 : decode cX11_outputsIn 0 = .ok (.iload_n 1, 1) := by decide +kernel
theorem dX11_outputsIn_1 : decode cX11_outputsIn 1 = .ok (.invokestatic 250, 3) := by decide +kernel
theorem dX11_outputsIn_4 : decode cX11_outputsIn 4 = .ok (.ifCond .eq 13, 3) := by decide +kernel
theorem dX11_outputsIn_7 : decode cX11_outputsIn 7 = .ok (.new 102, 3) := by decide +kernel
theorem dX11_outputsIn_10 : decode cX11_outputsIn 10 = .ok (.dup, 1) := by decide +kernel
theorem dX11_outputsIn_11 : decode cX11_outputsIn 11 = .ok (.ldc 253, 2) := by decide +kernel
theorem dX11_outputsIn_13 : decode cX11_outputsIn 13 = .ok (.invokespecial 106, 3) := by decide +kernel
theorem dX11_outputsIn_16 : decode cX11_outputsIn 16 = .ok (.athrow, 1) := by decide +kernel
theorem dX11_outputsIn_17 : decode cX11_outputsIn 17 = .ok (.aload_n 0, 1) := by decide +kernel
theorem dX11_outputsIn_18 : decode cX11_outputsIn 18 = .ok (.getfield 57, 3) := by decide +kernel
theorem dX11_outputsIn_21 : decode cX11_outputsIn 21 = .ok (.aload_n 0, 1) := by decide +kernel
theorem dX11_outputsIn_22 : decode cX11_outputsIn 22 = .ok (.getfield 53, 3) := by decide +kernel
theorem dX11_outputsIn_25 : decode cX11_outputsIn 25 = .ok (.invokevirtual 381, 3) := by decide +kernel
theorem dX11_outputsIn_28 : decode cX11_outputsIn 28 = .ok (.iconst 0, 1) := by decide +kernel
theorem dX11_outputsIn_29 : decode cX11_outputsIn 29 = .ok (.istore_n 2, 1) := by decide +kernel
theorem dX11_outputsIn_30 : decode cX11_outputsIn 30 = .ok (.iconst 0, 1) := by decide +kernel
theorem dX11_outputsIn_31 : decode cX11_outputsIn 31 = .ok (.istore_n 3, 1) := by decide +kernel
theorem dX11_outputsIn_32 : decode cX11_outputsIn 32 = .ok (.iload_n 3, 1) := by decide +kernel
theorem dX11_outputsIn_33 : decode cX11_outputsIn 33 = .ok (.ldc_w 307, 3) := by decide +kernel
theorem dX11_outputsIn_36 : decode cX11_outputsIn 36 = .ok (.if_icmp .ge 34, 3) := by decide +kernel
theorem dX11_outputsIn_39 : decode cX11_outputsIn 39 = .ok (.iload_n 2, 1) := by decide +kernel
theorem dX11_outputsIn_40 : decode cX11_outputsIn 40 = .ok (.iload_n 1, 1) := by decide +kernel
theorem dX11_outputsIn_41 : decode cX11_outputsIn 41 = .ok (.if_icmp .ge 29, 3) := by decide +kernel
theorem dX11_outputsIn_44 : decode cX11_outputsIn 44 = .ok (.aload_n 0, 1) := by decide +kernel
theorem dX11_outputsIn_45 : decode cX11_outputsIn 45 = .ok (.getfield 57, 3) := by decide +kernel
theorem dX11_outputsIn_48 : decode cX11_outputsIn 48 = .ok (.invokevirtual 240, 3) := by decide +kernel
theorem dX11_outputsIn_51 : decode cX11_outputsIn 51 = .ok (.ifCond .ne 19, 3) := by decide +kernel
theorem dX11_outputsIn_54 : decode cX11_outputsIn 54 = .ok (.iload_n 2, 1) := by decide +kernel
theorem dX11_outputsIn_55 : decode cX11_outputsIn 55 = .ok (.aload_n 0, 1) := by decide +kernel
theorem dX11_outputsIn_56 : decode cX11_outputsIn 56 = .ok (.getfield 57, 3) := by decide +kernel
theorem dX11_outputsIn_59 : decode cX11_outputsIn 59 = .ok (.invokevirtual 247, 3) := by decide +kernel
theorem dX11_outputsIn_62 : decode cX11_outputsIn 62 = .ok (.iadd, 1) := by decide +kernel
theorem dX11_outputsIn_63 : decode cX11_outputsIn 63 = .ok (.istore_n 2, 1) := by decide +kernel
theorem dX11_outputsIn_64 : decode cX11_outputsIn 64 = .ok (.iinc 3 1, 3) := by decide +kernel
theorem dX11_outputsIn_67 : decode cX11_outputsIn 67 = .ok (.goto (-35), 3) := by decide +kernel
theorem dX11_outputsIn_70 : decode cX11_outputsIn 70 = .ok (.aload_n 0, 1) := by decide +kernel
theorem dX11_outputsIn_71 : decode cX11_outputsIn 71 = .ok (.getfield 57, 3) := by decide +kernel
theorem dX11_outputsIn_74 : decode cX11_outputsIn 74 = .ok (.getfield 185, 3) := by decide +kernel
theorem dX11_outputsIn_77 : decode cX11_outputsIn 77 = .ok (.getfield 353, 3) := by decide +kernel
theorem dX11_outputsIn_80 : decode cX11_outputsIn 80 = .ok (.aload_n 0, 1) := by decide +kernel
theorem dX11_outputsIn_81 : decode cX11_outputsIn 81 = .ok (.getfield 53, 3) := by decide +kernel
theorem dX11_outputsIn_84 : decode cX11_outputsIn 84 = .ok (.getfield 185, 3) := by decide +kernel
theorem dX11_outputsIn_87 : decode cX11_outputsIn 87 = .ok (.getfield 353, 3) := by decide +kernel
theorem dX11_outputsIn_90 : decode cX11_outputsIn 90 = .ok (.isub, 1) := by decide +kernel
theorem dX11_outputsIn_91 : decode cX11_outputsIn 91 = .ok (.ireturn, 1) := by decide +kernel
theorem dX11_writesIn_0 : decode cX11_writesIn 0 = .ok (.iload_n 1, 1) := by decide +kernel
theorem dX11_writesIn_1 : decode cX11_writesIn 1 = .ok (.invokestatic 172, 3) := by decide +kernel
theorem dX11_writesIn_4 : decode cX11_writesIn 4 = .ok (.ifCond .eq 13, 3) := by decide +kernel
theorem dX11_writesIn_7 : decode cX11_writesIn 7 = .ok (.new 102, 3) := by decide +kernel
theorem dX11_writesIn_10 : decode cX11_writesIn 10 = .ok (.dup, 1) := by decide +kernel
theorem dX11_writesIn_11 : decode cX11_writesIn 11 = .ok (.ldc 176, 2) := by decide +kernel
theorem dX11_writesIn_13 : decode cX11_writesIn 13 = .ok (.invokespecial 106, 3) := by decide +kernel
theorem dX11_writesIn_16 : decode cX11_writesIn 16 = .ok (.athrow, 1) := by decide +kernel
theorem dX11_writesIn_17 : decode cX11_writesIn 17 = .ok (.iload_n 2, 1) := by decide +kernel
theorem dX11_writesIn_18 : decode cX11_writesIn 18 = .ok (.invokestatic 250, 3) := by decide +kernel
theorem dX11_writesIn_21 : decode cX11_writesIn 21 = .ok (.ifCond .eq 13, 3) := by decide +kernel
theorem dX11_writesIn_24 : decode cX11_writesIn 24 = .ok (.new 102, 3) := by decide +kernel
theorem dX11_writesIn_27 : decode cX11_writesIn 27 = .ok (.dup, 1) := by decide +kernel
theorem dX11_writesIn_28 : decode cX11_writesIn 28 = .ok (.ldc 253, 2) := by decide +kernel
theorem dX11_writesIn_30 : decode cX11_writesIn 30 = .ok (.invokespecial 106, 3) := by decide +kernel
theorem dX11_writesIn_33 : decode cX11_writesIn 33 = .ok (.athrow, 1) := by decide +kernel
theorem dX11_writesIn_34 : decode cX11_writesIn 34 = .ok (.aload_n 0, 1) := by decide +kernel
theorem dX11_writesIn_35 : decode cX11_writesIn 35 = .ok (.getfield 57, 3) := by decide +kernel
theorem dX11_writesIn_38 : decode cX11_writesIn 38 = .ok (.aload_n 0, 1) := by decide +kernel
theorem dX11_writesIn_39 : decode cX11_writesIn 39 = .ok (.getfield 53, 3) := by decide +kernel
theorem dX11_writesIn_42 : decode cX11_writesIn 42 = .ok (.invokevirtual 381, 3) := by decide +kernel
theorem dX11_writesIn_45 : decode cX11_writesIn 45 = .ok (.iconst 0, 1) := by decide +kernel
theorem dX11_writesIn_46 : decode cX11_writesIn 46 = .ok (.istore_n 3, 1) := by decide +kernel
theorem dX11_writesIn_47 : decode cX11_writesIn 47 = .ok (.iconst 0, 1) := by decide +kernel
theorem dX11_writesIn_48 : decode cX11_writesIn 48 = .ok (.istore 4, 2) := by decide +kernel
theorem dX11_writesIn_50 : decode cX11_writesIn 50 = .ok (.iconst 0, 1) := by decide +kernel
theorem dX11_writesIn_51 : decode cX11_writesIn 51 = .ok (.istore 5, 2) := by decide +kernel
theorem dX11_writesIn_53 : decode cX11_writesIn 53 = .ok (.iload 5, 2) := by decide +kernel
theorem dX11_writesIn_55 : decode cX11_writesIn 55 = .ok (.ldc_w 307, 3) := by decide +kernel
theorem dX11_writesIn_58 : decode cX11_writesIn 58 = .ok (.if_icmp .ge 47, 3) := by decide +kernel
theorem dX11_writesIn_61 : decode cX11_writesIn 61 = .ok (.iload_n 3, 1) := by decide +kernel
theorem dX11_writesIn_62 : decode cX11_writesIn 62 = .ok (.iload_n 2, 1) := by decide +kernel
theorem dX11_writesIn_63 : decode cX11_writesIn 63 = .ok (.if_icmp .ge 42, 3) := by decide +kernel
theorem dX11_writesIn_66 : decode cX11_writesIn 66 = .ok (.aload_n 0, 1) := by decide +kernel
theorem dX11_writesIn_67 : decode cX11_writesIn 67 = .ok (.getfield 57, 3) := by decide +kernel
theorem dX11_writesIn_70 : decode cX11_writesIn 70 = .ok (.invokevirtual 240, 3) := by decide +kernel
theorem dX11_writesIn_73 : decode cX11_writesIn 73 = .ok (.ifCond .ne 32, 3) := by decide +kernel
theorem dX11_writesIn_76 : decode cX11_writesIn 76 = .ok (.iload_n 3, 1) := by decide +kernel
theorem dX11_writesIn_77 : decode cX11_writesIn 77 = .ok (.aload_n 0, 1) := by decide +kernel
theorem dX11_writesIn_78 : decode cX11_writesIn 78 = .ok (.getfield 57, 3) := by decide +kernel
theorem dX11_writesIn_81 : decode cX11_writesIn 81 = .ok (.invokevirtual 247, 3) := by decide +kernel
theorem dX11_writesIn_84 : decode cX11_writesIn 84 = .ok (.iadd, 1) := by decide +kernel
theorem dX11_writesIn_85 : decode cX11_writesIn 85 = .ok (.istore_n 3, 1) := by decide +kernel
theorem dX11_writesIn_86 : decode cX11_writesIn 86 = .ok (.iload 4, 2) := by decide +kernel
theorem dX11_writesIn_88 : decode cX11_writesIn 88 = .ok (.aload_n 0, 1) := by decide +kernel
theorem dX11_writesIn_89 : decode cX11_writesIn 89 = .ok (.getfield 57, 3) := by decide +kernel
theorem dX11_writesIn_92 : decode cX11_writesIn 92 = .ok (.iload_n 1, 1) := by decide +kernel
theorem dX11_writesIn_93 : decode cX11_writesIn 93 = .ok (.invokevirtual 387, 3) := by decide +kernel
theorem dX11_writesIn_96 : decode cX11_writesIn 96 = .ok (.iadd, 1) := by decide +kernel
theorem dX11_writesIn_97 : decode cX11_writesIn 97 = .ok (.istore 4, 2) := by decide +kernel
theorem dX11_writesIn_99 : decode cX11_writesIn 99 = .ok (.iinc 5 1, 3) := by decide +kernel
theorem dX11_writesIn_102 : decode cX11_writesIn 102 = .ok (.goto (-49), 3) := by decide +kernel
theorem dX11_writesIn_105 : decode cX11_writesIn 105 = .ok (.iload 4, 2) := by decide +kernel
theorem dX11_writesIn_107 : decode cX11_writesIn 107 = .ok (.ireturn, 1) := by decide +kernel
theorem dX11_isCode_0 : decode cX11_isCode 0 = .ok (.iload_n 1, 1) := by decide +kernel
theorem dX11_isCode_1 : decode cX11_isCode 1 = .ok (.invokestatic 172, 3) := by decide +kernel
theorem dX11_isCode_4 : decode cX11_isCode 4 = .ok (.ifCond .eq 13, 3) := by decide +kernel
theorem dX11_isCode_7 : decode cX11_isCode 7 = .ok (.new 102, 3) := by decide +kernel
theorem dX11_isCode_10 : decode cX11_isCode 10 = .ok (.dup, 1) := by decide +kernel
theorem dX11_isCode_11 : decode cX11_isCode 11 = .ok (.ldc 176, 2) := by decide +kernel
theorem dX11_isCode_13 : decode cX11_isCode 13 = .ok (.invokespecial 106, 3) := by decide +kernel
theorem dX11_isCode_16 : decode cX11_isCode 16 = .ok (.athrow, 1) := by decide +kernel
theorem dX11_isCode_17 : decode cX11_isCode 17 = .ok (.aload_n 0, 1) := by decide +kernel
theorem dX11_isCode_18 : decode cX11_isCode 18 = .ok (.getfield 77, 3) := by decide +kernel
theorem dX11_isCode_21 : decode cX11_isCode 21 = .ok (.aload_n 0, 1) := by decide +kernel
theorem dX11_isCode_22 : decode cX11_isCode 22 = .ok (.getfield 53, 3) := by decide +kernel
theorem dX11_isCode_25 : decode cX11_isCode 25 = .ok (.invokevirtual 390, 3) := by decide +kernel
theorem dX11_isCode_28 : decode cX11_isCode 28 = .ok (.aload_n 0, 1) := by decide +kernel
theorem dX11_isCode_29 : decode cX11_isCode 29 = .ok (.getfield 77, 3) := by decide +kernel
theorem dX11_isCode_32 : decode cX11_isCode 32 = .ok (.getfield 393, 3) := by decide +kernel
theorem dX11_isCode_35 : decode cX11_isCode 35 = .ok (.iload_n 1, 1) := by decide +kernel
theorem dX11_isCode_36 : decode cX11_isCode 36 = .ok (.invokestatic 168, 3) := by decide +kernel
theorem dX11_isCode_39 : decode cX11_isCode 39 = .ok (.ifCond .eq 7, 3) := by decide +kernel
theorem dX11_isCode_42 : decode cX11_isCode 42 = .ok (.iconst 1, 1) := by decide +kernel
theorem dX11_isCode_43 : decode cX11_isCode 43 = .ok (.goto 4, 3) := by decide +kernel
theorem dX11_isCode_46 : decode cX11_isCode 46 = .ok (.iconst 0, 1) := by decide +kernel
theorem dX11_isCode_47 : decode cX11_isCode 47 = .ok (.ireturn, 1) := by decide +kernel
theorem dX11_codes_0 : decode cX11_codes 0 = .ok (.aload_n 0, 1) := by decide +kernel
theorem dX11_codes_1 : decode cX11_codes 1 = .ok (.getfield 77, 3) := by decide +kernel
theorem dX11_codes_4 : decode cX11_codes 4 = .ok (.aload_n 0, 1) := by decide +kernel
theorem dX11_codes_5 : decode cX11_codes 5 = .ok (.getfield 53, 3) := by decide +kernel
theorem dX11_codes_8 : decode cX11_codes 8 = .ok (.invokevirtual 390, 3) := by decide +kernel
theorem dX11_codes_11 : decode cX11_codes 11 = .ok (.aload_n 0, 1) := by decide +kernel
theorem dX11_codes_12 : decode cX11_codes 12 = .ok (.getfield 77, 3) := by decide +kernel
theorem dX11_codes_15 : decode cX11_codes 15 = .ok (.getfield 396, 3) := by decide +kernel
theorem dX11_codes_18 : decode cX11_codes 18 = .ok (.ireturn, 1) := by decide +kernel
theorem dX11_digest_0 : decode cX11_digest 0 = .ok (.aload_n 0, 1) := by decide +kernel
theorem dX11_digest_1 : decode cX11_digest 1 = .ok (.getfield 77, 3) := by decide +kernel
theorem dX11_digest_4 : decode cX11_digest 4 = .ok (.aload_n 0, 1) := by decide +kernel
theorem dX11_digest_5 : decode cX11_digest 5 = .ok (.getfield 53, 3) := by decide +kernel
theorem dX11_digest_8 : decode cX11_digest 8 = .ok (.invokevirtual 390, 3) := by decide +kernel
theorem dX11_digest_11 : decode cX11_digest 11 = .ok (.aload_n 0, 1) := by decide +kernel
theorem dX11_digest_12 : decode cX11_digest 12 = .ok (.getfield 53, 3) := by decide +kernel
theorem dX11_digest_15 : decode cX11_digest 15 = .ok (.ldc2_w 399, 3) := by decide +kernel
theorem dX11_digest_18 : decode cX11_digest 18 = .ok (.invokevirtual 401, 3) := by decide +kernel
theorem dX11_digest_21 : decode cX11_digest 21 = .ok (.lstore_n 1, 1) := by decide +kernel
theorem dX11_digest_22 : decode cX11_digest 22 = .ok (.aload_n 0, 1) := by decide +kernel
theorem dX11_digest_23 : decode cX11_digest 23 = .ok (.getfield 53, 3) := by decide +kernel
theorem dX11_digest_26 : decode cX11_digest 26 = .ok (.getfield 185, 3) := by decide +kernel
theorem dX11_digest_29 : decode cX11_digest 29 = .ok (.lload_n 1, 1) := by decide +kernel
theorem dX11_digest_30 : decode cX11_digest 30 = .ok (.invokevirtual 405, 3) := by decide +kernel
theorem dX11_digest_33 : decode cX11_digest 33 = .ok (.lstore_n 1, 1) := by decide +kernel
theorem dX11_digest_34 : decode cX11_digest 34 = .ok (.lload_n 1, 1) := by decide +kernel
theorem dX11_digest_35 : decode cX11_digest 35 = .ok (.ldc2_w 408, 3) := by decide +kernel
theorem dX11_digest_38 : decode cX11_digest 38 = .ok (.lmul, 1) := by decide +kernel
theorem dX11_digest_39 : decode cX11_digest 39 = .ok (.aload_n 0, 1) := by decide +kernel
theorem dX11_digest_40 : decode cX11_digest 40 = .ok (.getfield 70, 3) := by decide +kernel
theorem dX11_digest_43 : decode cX11_digest 43 = .ok (.getfield 198, 3) := by decide +kernel
theorem dX11_digest_46 : decode cX11_digest 46 = .ok (.i2l, 1) := by decide +kernel
theorem dX11_digest_47 : decode cX11_digest 47 = .ok (.ladd, 1) := by decide +kernel
theorem dX11_digest_48 : decode cX11_digest 48 = .ok (.lstore_n 1, 1) := by decide +kernel
theorem dX11_digest_49 : decode cX11_digest 49 = .ok (.lload_n 1, 1) := by decide +kernel
theorem dX11_digest_50 : decode cX11_digest 50 = .ok (.ldc2_w 408, 3) := by decide +kernel
theorem dX11_digest_53 : decode cX11_digest 53 = .ok (.lmul, 1) := by decide +kernel
theorem dX11_digest_54 : decode cX11_digest 54 = .ok (.aload_n 0, 1) := by decide +kernel
theorem dX11_digest_55 : decode cX11_digest 55 = .ok (.getfield 63, 3) := by decide +kernel
theorem dX11_digest_58 : decode cX11_digest 58 = .ok (.getfield 277, 3) := by decide +kernel
theorem dX11_digest_61 : decode cX11_digest 61 = .ok (.i2l, 1) := by decide +kernel
theorem dX11_digest_62 : decode cX11_digest 62 = .ok (.ladd, 1) := by decide +kernel
theorem dX11_digest_63 : decode cX11_digest 63 = .ok (.lstore_n 1, 1) := by decide +kernel
theorem dX11_digest_64 : decode cX11_digest 64 = .ok (.aload_n 0, 1) := by decide +kernel
theorem dX11_digest_65 : decode cX11_digest 65 = .ok (.getfield 53, 3) := by decide +kernel
theorem dX11_digest_68 : decode cX11_digest 68 = .ok (.lload_n 1, 1) := by decide +kernel
theorem dX11_digest_69 : decode cX11_digest 69 = .ok (.invokevirtual 410, 3) := by decide +kernel
theorem dX11_digest_72 : decode cX11_digest 72 = .ok (.lstore_n 1, 1) := by decide +kernel
theorem dX11_digest_73 : decode cX11_digest 73 = .ok (.aload_n 0, 1) := by decide +kernel
theorem dX11_digest_74 : decode cX11_digest 74 = .ok (.getfield 19, 3) := by decide +kernel
theorem dX11_digest_77 : decode cX11_digest 77 = .ok (.lload_n 1, 1) := by decide +kernel
theorem dX11_digest_78 : decode cX11_digest 78 = .ok (.invokevirtual 413, 3) := by decide +kernel
theorem dX11_digest_81 : decode cX11_digest 81 = .ok (.lstore_n 1, 1) := by decide +kernel
theorem dX11_digest_82 : decode cX11_digest 82 = .ok (.lload_n 1, 1) := by decide +kernel
theorem dX11_digest_83 : decode cX11_digest 83 = .ok (.ldc2_w 408, 3) := by decide +kernel
theorem dX11_digest_86 : decode cX11_digest 86 = .ok (.lmul, 1) := by decide +kernel
theorem dX11_digest_87 : decode cX11_digest 87 = .ok (.aload_n 0, 1) := by decide +kernel
theorem dX11_digest_88 : decode cX11_digest 88 = .ok (.getfield 53, 3) := by decide +kernel
theorem dX11_digest_91 : decode cX11_digest 91 = .ok (.invokevirtual 372, 3) := by decide +kernel
theorem dX11_digest_94 : decode cX11_digest 94 = .ok (.i2l, 1) := by decide +kernel
theorem dX11_digest_95 : decode cX11_digest 95 = .ok (.ladd, 1) := by decide +kernel
theorem dX11_digest_96 : decode cX11_digest 96 = .ok (.lstore_n 1, 1) := by decide +kernel
theorem dX11_digest_97 : decode cX11_digest 97 = .ok (.lload_n 1, 1) := by decide +kernel
theorem dX11_digest_98 : decode cX11_digest 98 = .ok (.ldc2_w 408, 3) := by decide +kernel
theorem dX11_digest_101 : decode cX11_digest 101 = .ok (.lmul, 1) := by decide +kernel
theorem dX11_digest_102 : decode cX11_digest 102 = .ok (.aload_n 0, 1) := by decide +kernel
theorem dX11_digest_103 : decode cX11_digest 103 = .ok (.getfield 77, 3) := by decide +kernel
theorem dX11_digest_106 : decode cX11_digest 106 = .ok (.getfield 396, 3) := by decide +kernel
theorem dX11_digest_109 : decode cX11_digest 109 = .ok (.i2l, 1) := by decide +kernel
theorem dX11_digest_110 : decode cX11_digest 110 = .ok (.ladd, 1) := by decide +kernel
theorem dX11_digest_111 : decode cX11_digest 111 = .ok (.lstore_n 1, 1) := by decide +kernel
theorem dX11_digest_112 : decode cX11_digest 112 = .ok (.iconst 0, 1) := by decide +kernel
theorem dX11_digest_113 : decode cX11_digest 113 = .ok (.istore_n 3, 1) := by decide +kernel
theorem dX11_digest_114 : decode cX11_digest 114 = .ok (.iload_n 3, 1) := by decide +kernel
theorem dX11_digest_115 : decode cX11_digest 115 = .ok (.sipush 11008, 3) := by decide +kernel
theorem dX11_digest_118 : decode cX11_digest 118 = .ok (.if_icmp .ge 28, 3) := by decide +kernel
theorem dX11_digest_121 : decode cX11_digest 121 = .ok (.lload_n 1, 1) := by decide +kernel
theorem dX11_digest_122 : decode cX11_digest 122 = .ok (.ldc2_w 408, 3) := by decide +kernel
theorem dX11_digest_125 : decode cX11_digest 125 = .ok (.lmul, 1) := by decide +kernel
theorem dX11_digest_126 : decode cX11_digest 126 = .ok (.aload_n 0, 1) := by decide +kernel
theorem dX11_digest_127 : decode cX11_digest 127 = .ok (.getfield 53, 3) := by decide +kernel
theorem dX11_digest_130 : decode cX11_digest 130 = .ok (.getfield 144, 3) := by decide +kernel
theorem dX11_digest_133 : decode cX11_digest 133 = .ok (.iload_n 3, 1) := by decide +kernel
theorem dX11_digest_134 : decode cX11_digest 134 = .ok (.invokestatic 168, 3) := by decide +kernel
theorem dX11_digest_137 : decode cX11_digest 137 = .ok (.i2l, 1) := by decide +kernel
theorem dX11_digest_138 : decode cX11_digest 138 = .ok (.ladd, 1) := by decide +kernel
theorem dX11_digest_139 : decode cX11_digest 139 = .ok (.lstore_n 1, 1) := by decide +kernel
theorem dX11_digest_140 : decode cX11_digest 140 = .ok (.iinc 3 1, 3) := by decide +kernel
theorem dX11_digest_143 : decode cX11_digest 143 = .ok (.goto (-29), 3) := by decide +kernel
theorem dX11_digest_146 : decode cX11_digest 146 = .ok (.aload_n 0, 1) := by decide +kernel
theorem dX11_digest_147 : decode cX11_digest 147 = .ok (.getfield 53, 3) := by decide +kernel
theorem dX11_digest_150 : decode cX11_digest 150 = .ok (.getfield 185, 3) := by decide +kernel
theorem dX11_digest_153 : decode cX11_digest 153 = .ok (.lload_n 1, 1) := by decide +kernel
theorem dX11_digest_154 : decode cX11_digest 154 = .ok (.invokevirtual 416, 3) := by decide +kernel
theorem dX11_digest_157 : decode cX11_digest 157 = .ok (.lreturn, 1) := by decide +kernel
theorem dX11_isNoAddress_0 : decode cX11_isNoAddress 0 = .ok (.iload_n 0, 1) := by decide +kernel
theorem dX11_isNoAddress_1 : decode cX11_isNoAddress 1 = .ok (.ifCond .lt 10, 3) := by decide +kernel
theorem dX11_isNoAddress_4 : decode cX11_isNoAddress 4 = .ok (.iload_n 0, 1) := by decide +kernel
theorem dX11_isNoAddress_5 : decode cX11_isNoAddress 5 = .ok (.sipush 4095, 3) := by decide +kernel
theorem dX11_isNoAddress_8 : decode cX11_isNoAddress 8 = .ok (.if_icmp .le 7, 3) := by decide +kernel
theorem dX11_isNoAddress_11 : decode cX11_isNoAddress 11 = .ok (.iconst 1, 1) := by decide +kernel
theorem dX11_isNoAddress_12 : decode cX11_isNoAddress 12 = .ok (.goto 4, 3) := by decide +kernel
theorem dX11_isNoAddress_15 : decode cX11_isNoAddress 15 = .ok (.iconst 0, 1) := by decide +kernel
theorem dX11_isNoAddress_16 : decode cX11_isNoAddress 16 = .ok (.ireturn, 1) := by decide +kernel
theorem dX11_isNoByte_0 : decode cX11_isNoByte 0 = .ok (.iload_n 0, 1) := by decide +kernel
theorem dX11_isNoByte_1 : decode cX11_isNoByte 1 = .ok (.ifCond .lt 10, 3) := by decide +kernel
theorem dX11_isNoByte_4 : decode cX11_isNoByte 4 = .ok (.iload_n 0, 1) := by decide +kernel
theorem dX11_isNoByte_5 : decode cX11_isNoByte 5 = .ok (.sipush 255, 3) := by decide +kernel
theorem dX11_isNoByte_8 : decode cX11_isNoByte 8 = .ok (.if_icmp .le 7, 3) := by decide +kernel
theorem dX11_isNoByte_11 : decode cX11_isNoByte 11 = .ok (.iconst 1, 1) := by decide +kernel
theorem dX11_isNoByte_12 : decode cX11_isNoByte 12 = .ok (.goto 4, 3) := by decide +kernel
theorem dX11_isNoByte_15 : decode cX11_isNoByte 15 = .ok (.iconst 0, 1) := by decide +kernel
theorem dX11_isNoByte_16 : decode cX11_isNoByte 16 = .ok (.ireturn, 1) := by decide +kernel
theorem dX11_isNoSpan_0 : decode cX11_isNoSpan 0 = .ok (.iload_n 0, 1) := by decide +kernel
theorem dX11_isNoSpan_1 : decode cX11_isNoSpan 1 = .ok (.iconst 1, 1) := by decide +kernel
theorem dX11_isNoSpan_2 : decode cX11_isNoSpan 2 = .ok (.if_icmp .lt 10, 3) := by decide +kernel
theorem dX11_isNoSpan_5 : decode cX11_isNoSpan 5 = .ok (.iload_n 0, 1) := by decide +kernel
theorem dX11_isNoSpan_6 : decode cX11_isNoSpan 6 = .ok (.sipush 5000, 3) := by decide +kernel
theorem dX11_isNoSpan_9 : decode cX11_isNoSpan 9 = .ok (.if_icmp .le 7, 3) := by decide +kernel
theorem dX11_isNoSpan_12 : decode cX11_isNoSpan 12 = .ok (.iconst 1, 1) := by decide +kernel
theorem dX11_isNoSpan_13 : decode cX11_isNoSpan 13 = .ok (.goto 4, 3) := by decide +kernel
theorem dX11_isNoSpan_16 : decode cX11_isNoSpan 16 = .ok (.iconst 0, 1) := by decide +kernel
theorem dX11_isNoSpan_17 : decode cX11_isNoSpan 17 = .ok (.ireturn, 1) := by decide +kernel
theorem dX11_isPort_0 : decode cX11_isPort 0 = .ok (.iload_n 0, 1) := by decide +kernel
theorem dX11_isPort_1 : decode cX11_isPort 1 = .ok (.sipush 1792, 3) := by decide +kernel
theorem dX11_isPort_4 : decode cX11_isPort 4 = .ok (.if_icmp .lt 14, 3) := by decide +kernel
theorem dX11_isPort_7 : decode cX11_isPort 7 = .ok (.iload_n 0, 1) := by decide +kernel
theorem dX11_isPort_8 : decode cX11_isPort 8 = .ok (.sipush 2048, 3) := by decide +kernel
theorem dX11_isPort_11 : decode cX11_isPort 11 = .ok (.if_icmp .ge 7, 3) := by decide +kernel
theorem dX11_isPort_14 : decode cX11_isPort 14 = .ok (.iconst 1, 1) := by decide +kernel
theorem dX11_isPort_15 : decode cX11_isPort 15 = .ok (.goto 4, 3) := by decide +kernel
theorem dX11_isPort_18 : decode cX11_isPort 18 = .ok (.iconst 0, 1) := by decide +kernel
theorem dX11_isPort_19 : decode cX11_isPort 19 = .ok (.ireturn, 1) := by decide +kernel
theorem dX11_at_0 : decode cX11_at 0 = .ok (.iload_n 1, 1) := by decide +kernel
theorem dX11_at_1 : decode cX11_at 1 = .ok (.ifCond .lt 15, 3) := by decide +kernel
theorem dX11_at_4 : decode cX11_at 4 = .ok (.iload_n 1, 1) := by decide +kernel
theorem dX11_at_5 : decode cX11_at 5 = .ok (.aload_n 0, 1) := by decide +kernel
theorem dX11_at_6 : decode cX11_at 6 = .ok (.arraylength, 1) := by decide +kernel
theorem dX11_at_7 : decode cX11_at 7 = .ok (.if_icmp .ge 9, 3) := by decide +kernel
theorem dX11_at_10 : decode cX11_at 10 = .ok (.aload_n 0, 1) := by decide +kernel
theorem dX11_at_11 : decode cX11_at 11 = .ok (.iload_n 1, 1) := by decide +kernel
theorem dX11_at_12 : decode cX11_at 12 = .ok (.iaload, 1) := by decide +kernel
theorem dX11_at_13 : decode cX11_at 13 = .ok (.goto 4, 3) := by decide +kernel
theorem dX11_at_16 : decode cX11_at 16 = .ok (.iconst 0, 1) := by decide +kernel
theorem dX11_at_17 : decode cX11_at 17 = .ok (.ireturn, 1) := by decide +kernel
theorem dX11_put_0 : decode cX11_put 0 = .ok (.iload_n 1, 1) := by decide +kernel
theorem dX11_put_1 : decode cX11_put 1 = .ok (.ifCond .lt 13, 3) := by decide +kernel
theorem dX11_put_4 : decode cX11_put 4 = .ok (.iload_n 1, 1) := by decide +kernel
theorem dX11_put_5 : decode cX11_put 5 = .ok (.aload_n 0, 1) := by decide +kernel
theorem dX11_put_6 : decode cX11_put 6 = .ok (.arraylength, 1) := by decide +kernel
theorem dX11_put_7 : decode cX11_put 7 = .ok (.if_icmp .ge 7, 3) := by decide +kernel
theorem dX11_put_10 : decode cX11_put 10 = .ok (.aload_n 0, 1) := by decide +kernel
theorem dX11_put_11 : decode cX11_put 11 = .ok (.iload_n 1, 1) := by decide +kernel
theorem dX11_put_12 : decode cX11_put 12 = .ok (.iload_n 2, 1) := by decide +kernel
theorem dX11_put_13 : decode cX11_put 13 = .ok (.iastore, 1) := by decide +kernel
theorem dX11_put_14 : decode cX11_put 14 = .ok (.return_, 1) := by decide +kernel
theorem dX11_placeOf_0 : decode cX11_placeOf 0 = .ok (.iload_n 0, 1) := by decide +kernel
theorem dX11_placeOf_1 : decode cX11_placeOf 1 = .ok (.sipush 1792, 3) := by decide +kernel
theorem dX11_placeOf_4 : decode cX11_placeOf 4 = .ok (.if_icmp .ge 5, 3) := by decide +kernel
theorem dX11_placeOf_7 : decode cX11_placeOf 7 = .ok (.iload_n 0, 1) := by decide +kernel
theorem dX11_placeOf_8 : decode cX11_placeOf 8 = .ok (.ireturn, 1) := by decide +kernel
theorem dX11_placeOf_9 : decode cX11_placeOf 9 = .ok (.iload_n 0, 1) := by decide +kernel
theorem dX11_placeOf_10 : decode cX11_placeOf 10 = .ok (.sipush 2048, 3) := by decide +kernel
theorem dX11_placeOf_13 : decode cX11_placeOf 13 = .ok (.if_icmp .ge 5, 3) := by decide +kernel
theorem dX11_placeOf_16 : decode cX11_placeOf 16 = .ok (.iconst (-1), 1) := by decide +kernel
theorem dX11_placeOf_17 : decode cX11_placeOf 17 = .ok (.ireturn, 1) := by decide +kernel
theorem dX11_placeOf_18 : decode cX11_placeOf 18 = .ok (.iload_n 0, 1) := by decide +kernel
theorem dX11_placeOf_19 : decode cX11_placeOf 19 = .ok (.sipush 3072, 3) := by decide +kernel
theorem dX11_placeOf_22 : decode cX11_placeOf 22 = .ok (.if_icmp .ge 19, 3) := by decide +kernel
theorem dX11_placeOf_25 : decode cX11_placeOf 25 = .ok (.sipush 1792, 3) := by decide +kernel
theorem dX11_placeOf_28 : decode cX11_placeOf 28 = .ok (.iload_n 1, 1) := by decide +kernel
theorem dX11_placeOf_29 : decode cX11_placeOf 29 = .ok (.sipush 1024, 3) := by decide +kernel
theorem dX11_placeOf_32 : decode cX11_placeOf 32 = .ok (.imul, 1) := by decide +kernel
theorem dX11_placeOf_33 : decode cX11_placeOf 33 = .ok (.iadd, 1) := by decide +kernel
theorem dX11_placeOf_34 : decode cX11_placeOf 34 = .ok (.iload_n 0, 1) := by decide +kernel
theorem dX11_placeOf_35 : decode cX11_placeOf 35 = .ok (.iadd, 1) := by decide +kernel
theorem dX11_placeOf_36 : decode cX11_placeOf 36 = .ok (.sipush 2048, 3) := by decide +kernel
theorem dX11_placeOf_39 : decode cX11_placeOf 39 = .ok (.isub, 1) := by decide +kernel
theorem dX11_placeOf_40 : decode cX11_placeOf 40 = .ok (.ireturn, 1) := by decide +kernel
theorem dX11_placeOf_41 : decode cX11_placeOf 41 = .ok (.sipush 9984, 3) := by decide +kernel
theorem dX11_placeOf_44 : decode cX11_placeOf 44 = .ok (.iload_n 0, 1) := by decide +kernel
theorem dX11_placeOf_45 : decode cX11_placeOf 45 = .ok (.iadd, 1) := by decide +kernel
theorem dX11_placeOf_46 : decode cX11_placeOf 46 = .ok (.sipush 3072, 3) := by decide +kernel
theorem dX11_placeOf_49 : decode cX11_placeOf 49 = .ok (.isub, 1) := by decide +kernel
theorem dX11_placeOf_50 : decode cX11_placeOf 50 = .ok (.ireturn, 1) := by decide +kernel
theorem dX11_hasMode_0 : decode cX11_hasMode 0 = .ok (.iload_n 0, 1) := by decide +kernel
theorem dX11_hasMode_1 : decode cX11_hasMode 1 = .ok (.bipush 24, 2) := by decide +kernel
theorem dX11_hasMode_3 : decode cX11_hasMode 3 = .ok (.if_icmp .lt 19, 3) := by decide +kernel
theorem dX11_hasMode_6 : decode cX11_hasMode 6 = .ok (.iload_n 1, 1) := by decide +kernel
theorem dX11_hasMode_7 : decode cX11_hasMode 7 = .ok (.iconst 3, 1) := by decide +kernel
theorem dX11_hasMode_8 : decode cX11_hasMode 8 = .ok (.if_icmp .lt 12, 3) := by decide +kernel
theorem dX11_hasMode_11 : decode cX11_hasMode 11 = .ok (.iload_n 1, 1) := by decide +kernel
theorem dX11_hasMode_12 : decode cX11_hasMode 12 = .ok (.iconst 5, 1) := by decide +kernel
theorem dX11_hasMode_13 : decode cX11_hasMode 13 = .ok (.if_icmp .gt 7, 3) := by decide +kernel
theorem dX11_hasMode_16 : decode cX11_hasMode 16 = .ok (.iconst 1, 1) := by decide +kernel
theorem dX11_hasMode_17 : decode cX11_hasMode 17 = .ok (.goto 4, 3) := by decide +kernel
theorem dX11_hasMode_20 : decode cX11_hasMode 20 = .ok (.iconst 0, 1) := by decide +kernel
theorem dX11_hasMode_21 : decode cX11_hasMode 21 = .ok (.ireturn, 1) := by decide +kernel
theorem dX11_hasMode_22 : decode cX11_hasMode 22 = .ok (.iload_n 0, 1) := by decide +kernel
theorem dX11_hasMode_23 : decode cX11_hasMode 23 = .ok (.bipush 16, 2) := by decide +kernel
theorem dX11_hasMode_25 : decode cX11_hasMode 25 = .ok (.if_icmp .ge 7, 3) := by decide +kernel
theorem dX11_hasMode_28 : decode cX11_hasMode 28 = .ok (.iconst 1, 1) := by decide +kernel
theorem dX11_hasMode_29 : decode cX11_hasMode 29 = .ok (.goto 4, 3) := by decide +kernel
theorem dX11_hasMode_32 : decode cX11_hasMode 32 = .ok (.iconst 2, 1) := by decide +kernel
theorem dX11_hasMode_33 : decode cX11_hasMode 33 = .ok (.istore_n 2, 1) := by decide +kernel
theorem dX11_hasMode_34 : decode cX11_hasMode 34 = .ok (.iload_n 1, 1) := by decide +kernel
theorem dX11_hasMode_35 : decode cX11_hasMode 35 = .ok (.iload_n 2, 1) := by decide +kernel
theorem dX11_hasMode_36 : decode cX11_hasMode 36 = .ok (.if_icmp .lt 13, 3) := by decide +kernel
theorem dX11_hasMode_39 : decode cX11_hasMode 39 = .ok (.iload_n 1, 1) := by decide +kernel
theorem dX11_hasMode_40 : decode cX11_hasMode 40 = .ok (.bipush 6, 2) := by decide +kernel
theorem dX11_hasMode_42 : decode cX11_hasMode 42 = .ok (.if_icmp .gt 7, 3) := by decide +kernel
theorem dX11_hasMode_45 : decode cX11_hasMode 45 = .ok (.iconst 1, 1) := by decide +kernel
theorem dX11_hasMode_46 : decode cX11_hasMode 46 = .ok (.goto 4, 3) := by decide +kernel
theorem dX11_hasMode_49 : decode cX11_hasMode 49 = .ok (.iconst 0, 1) := by decide +kernel
theorem dX11_hasMode_50 : decode cX11_hasMode 50 = .ok (.ireturn, 1) := by decide +kernel
theorem dX11_lengthOf_0 : decode cX11_lengthOf 0 = .ok (.iload_n 0, 1) := by decide +kernel
theorem dX11_lengthOf_1 : decode cX11_lengthOf 1 = .ok (.iconst 3, 1) := by decide +kernel
theorem dX11_lengthOf_2 : decode cX11_lengthOf 2 = .ok (.ishr, 1) := by decide +kernel
theorem dX11_lengthOf_3 : decode cX11_lengthOf 3 = .ok (.istore_n 1, 1) := by decide +kernel
theorem dX11_lengthOf_4 : decode cX11_lengthOf 4 = .ok (.iload_n 0, 1) := by decide +kernel
theorem dX11_lengthOf_5 : decode cX11_lengthOf 5 = .ok (.bipush 7, 2) := by decide +kernel
theorem dX11_lengthOf_7 : decode cX11_lengthOf 7 = .ok (.iand, 1) := by decide +kernel
theorem dX11_lengthOf_8 : decode cX11_lengthOf 8 = .ok (.istore_n 2, 1) := by decide +kernel
theorem dX11_lengthOf_9 : decode cX11_lengthOf 9 = .ok (.iload_n 1, 1) := by decide +kernel
theorem dX11_lengthOf_10 : decode cX11_lengthOf 10 = .ok (.iconst 4, 1) := by decide +kernel
theorem dX11_lengthOf_11 : decode cX11_lengthOf 11 = .ok (.if_icmp .ge 5, 3) := by decide +kernel
theorem dX11_lengthOf_14 : decode cX11_lengthOf 14 = .ok (.iconst 1, 1) := by decide +kernel
theorem dX11_lengthOf_15 : decode cX11_lengthOf 15 = .ok (.ireturn, 1) := by decide +kernel
theorem dX11_lengthOf_16 : decode cX11_lengthOf 16 = .ok (.iload_n 0, 1) := by decide +kernel
theorem dX11_lengthOf_17 : decode cX11_lengthOf 17 = .ok (.sipush 208, 3) := by decide +kernel
theorem dX11_lengthOf_20 : decode cX11_lengthOf 20 = .ok (.if_icmp .lt 16, 3) := by decide +kernel
theorem dX11_lengthOf_23 : decode cX11_lengthOf 23 = .ok (.iload_n 0, 1) := by decide +kernel
theorem dX11_lengthOf_24 : decode cX11_lengthOf 24 = .ok (.sipush 217, 3) := by decide +kernel
theorem dX11_lengthOf_27 : decode cX11_lengthOf 27 = .ok (.if_icmp .gt 7, 3) := by decide +kernel
theorem dX11_lengthOf_30 : decode cX11_lengthOf 30 = .ok (.iconst 2, 1) := by decide +kernel
theorem dX11_lengthOf_31 : decode cX11_lengthOf 31 = .ok (.goto 4, 3) := by decide +kernel
theorem dX11_lengthOf_34 : decode cX11_lengthOf 34 = .ok (.iconst 0, 1) := by decide +kernel
theorem dX11_lengthOf_35 : decode cX11_lengthOf 35 = .ok (.ireturn, 1) := by decide +kernel
theorem dX11_lengthOf_36 : decode cX11_lengthOf 36 = .ok (.iload_n 1, 1) := by decide +kernel
theorem dX11_lengthOf_37 : decode cX11_lengthOf 37 = .ok (.iload_n 2, 1) := by decide +kernel
theorem dX11_lengthOf_38 : decode cX11_lengthOf 38 = .ok (.invokestatic 419, 3) := by decide +kernel
theorem dX11_lengthOf_41 : decode cX11_lengthOf 41 = .ok (.ifCond .ne 5, 3) := by decide +kernel
theorem dX11_lengthOf_44 : decode cX11_lengthOf 44 = .ok (.iconst 0, 1) := by decide +kernel
theorem dX11_lengthOf_45 : decode cX11_lengthOf 45 = .ok (.ireturn, 1) := by decide +kernel
theorem dX11_lengthOf_46 : decode cX11_lengthOf 46 = .ok (.iload_n 2, 1) := by decide +kernel
theorem dX11_lengthOf_47 : decode cX11_lengthOf 47 = .ok (.iconst 3, 1) := by decide +kernel
theorem dX11_lengthOf_48 : decode cX11_lengthOf 48 = .ok (.if_icmp .eq 8, 3) := by decide +kernel
theorem dX11_lengthOf_51 : decode cX11_lengthOf 51 = .ok (.iload_n 2, 1) := by decide +kernel
theorem dX11_lengthOf_52 : decode cX11_lengthOf 52 = .ok (.iconst 4, 1) := by decide +kernel
theorem dX11_lengthOf_53 : decode cX11_lengthOf 53 = .ok (.if_icmp .ne 7, 3) := by decide +kernel
theorem dX11_lengthOf_56 : decode cX11_lengthOf 56 = .ok (.iconst 3, 1) := by decide +kernel
theorem dX11_lengthOf_57 : decode cX11_lengthOf 57 = .ok (.goto 4, 3) := by decide +kernel
theorem dX11_lengthOf_60 : decode cX11_lengthOf 60 = .ok (.iconst 2, 1) := by decide +kernel
theorem dX11_lengthOf_61 : decode cX11_lengthOf 61 = .ok (.ireturn, 1) := by decide +kernel
theorem dX11_signed_0 : decode cX11_signed 0 = .ok (.iload_n 0, 1) := by decide +kernel
theorem dX11_signed_1 : decode cX11_signed 1 = .ok (.sipush 128, 3) := by decide +kernel
theorem dX11_signed_4 : decode cX11_signed 4 = .ok (.if_icmp .ge 7, 3) := by decide +kernel
theorem dX11_signed_7 : decode cX11_signed 7 = .ok (.iload_n 0, 1) := by decide +kernel
theorem dX11_signed_8 : decode cX11_signed 8 = .ok (.goto 8, 3) := by decide +kernel
theorem dX11_signed_11 : decode cX11_signed 11 = .ok (.iload_n 0, 1) := by decide +kernel
theorem dX11_signed_12 : decode cX11_signed 12 = .ok (.sipush 256, 3) := by decide +kernel
theorem dX11_signed_15 : decode cX11_signed 15 = .ok (.isub, 1) := by decide +kernel
theorem dX11_signed_16 : decode cX11_signed 16 = .ok (.ireturn, 1) := by decide +kernel
theorem dJ9_min_7cf53_0 : decode cJ9_min_7cf53 0 = .ok (.iload_n 0, 1) := by decide +kernel
theorem dJ9_min_7cf53_1 : decode cJ9_min_7cf53 1 = .ok (.iload_n 1, 1) := by decide +kernel
theorem dJ9_min_7cf53_2 : decode cJ9_min_7cf53 2 = .ok (.if_icmp .gt 7, 3) := by decide +kernel
theorem dJ9_min_7cf53_5 : decode cJ9_min_7cf53 5 = .ok (.iload_n 0, 1) := by decide +kernel
theorem dJ9_min_7cf53_6 : decode cJ9_min_7cf53 6 = .ok (.goto 4, 3) := by decide +kernel
theorem dJ9_min_7cf53_9 : decode cJ9_min_7cf53 9 = .ok (.iload_n 1, 1) := by decide +kernel
theorem dJ9_min_7cf53_10 : decode cJ9_min_7cf53 10 = .ok (.ireturn, 1) := by decide +kernel
theorem dJ7_fill_53178_0 : decode cJ7_fill_53178 0 = .ok (.iconst 0, 1) := by decide +kernel
theorem dJ7_fill_53178_1 : decode cJ7_fill_53178 1 = .ok (.istore_n 2, 1) := by decide +kernel
theorem dJ7_fill_53178_2 : decode cJ7_fill_53178 2 = .ok (.aload_n 0, 1) := by decide +kernel
theorem dJ7_fill_53178_3 : decode cJ7_fill_53178 3 = .ok (.arraylength, 1) := by decide +kernel
theorem dJ7_fill_53178_4 : decode cJ7_fill_53178 4 = .ok (.istore_n 3, 1) := by decide +kernel
theorem dJ7_fill_53178_5 : decode cJ7_fill_53178 5 = .ok (.iload_n 2, 1) := by decide +kernel
theorem dJ7_fill_53178_6 : decode cJ7_fill_53178 6 = .ok (.iload_n 3, 1) := by decide +kernel
theorem dJ7_fill_53178_7 : decode cJ7_fill_53178 7 = .ok (.if_icmp .ge 13, 3) := by decide +kernel
theorem dJ7_fill_53178_10 : decode cJ7_fill_53178 10 = .ok (.aload_n 0, 1) := by decide +kernel
theorem dJ7_fill_53178_11 : decode cJ7_fill_53178 11 = .ok (.iload_n 2, 1) := by decide +kernel
theorem dJ7_fill_53178_12 : decode cJ7_fill_53178 12 = .ok (.iload_n 1, 1) := by decide +kernel
theorem dJ7_fill_53178_13 : decode cJ7_fill_53178 13 = .ok (.iastore, 1) := by decide +kernel
theorem dJ7_fill_53178_14 : decode cJ7_fill_53178 14 = .ok (.iinc 2 1, 3) := by decide +kernel
theorem dJ7_fill_53178_17 : decode cJ7_fill_53178 17 = .ok (.goto (-12), 3) := by decide +kernel
theorem dJ7_fill_53178_20 : decode cJ7_fill_53178 20 = .ok (.return_, 1) := by decide +kernel
theorem dL_below_0 : decode cL_below 0 = .ok (.iload_n 0, 1) := by decide +kernel
theorem dL_below_1 : decode cL_below 1 = .ok (.ldc 7, 2) := by decide +kernel
theorem dL_below_3 : decode cL_below 3 = .ok (.iand, 1) := by decide +kernel
theorem dL_below_4 : decode cL_below 4 = .ok (.iload_n 1, 1) := by decide +kernel
theorem dL_below_5 : decode cL_below 5 = .ok (.irem, 1) := by decide +kernel
theorem dL_below_6 : decode cL_below 6 = .ok (.ireturn, 1) := by decide +kernel
theorem dL_cell_0 : decode cL_cell 0 = .ok (.iload_n 1, 1) := by decide +kernel
theorem dL_cell_1 : decode cL_cell 1 = .ok (.aload_n 0, 1) := by decide +kernel
theorem dL_cell_2 : decode cL_cell 2 = .ok (.arraylength, 1) := by decide +kernel
theorem dL_cell_3 : decode cL_cell 3 = .ok (.if_icmp .ge 9, 3) := by decide +kernel
theorem dL_cell_6 : decode cL_cell 6 = .ok (.aload_n 0, 1) := by decide +kernel
theorem dL_cell_7 : decode cL_cell 7 = .ok (.iload_n 1, 1) := by decide +kernel
theorem dL_cell_8 : decode cL_cell 8 = .ok (.iaload, 1) := by decide +kernel
theorem dL_cell_9 : decode cL_cell 9 = .ok (.goto 9, 3) := by decide +kernel
theorem dL_cell_12 : decode cL_cell 12 = .ok (.ldc 8, 2) := by decide +kernel
theorem dL_cell_14 : decode cL_cell 14 = .ok (.iload_n 1, 1) := by decide +kernel
theorem dL_cell_15 : decode cL_cell 15 = .ok (.iconst 3, 1) := by decide +kernel
theorem dL_cell_16 : decode cL_cell 16 = .ok (.iadd, 1) := by decide +kernel
theorem dL_cell_17 : decode cL_cell 17 = .ok (.imul, 1) := by decide +kernel
theorem dL_cell_18 : decode cL_cell 18 = .ok (.ireturn, 1) := by decide +kernel
theorem dL_ask_0 : decode cL_ask 0 = .ok (.iload_n 1, 1) := by decide +kernel
theorem dL_ask_1 : decode cL_ask 1 = .ok (.sipush 4096, 3) := by decide +kernel
theorem dL_ask_4 : decode cL_ask 4 = .ok (.invokestatic 9, 3) := by decide +kernel
theorem dL_ask_7 : decode cL_ask 7 = .ok (.istore_n 2, 1) := by decide +kernel
theorem dL_ask_8 : decode cL_ask 8 = .ok (.aload_n 0, 1) := by decide +kernel
theorem dL_ask_9 : decode cL_ask 9 = .ok (.iload_n 2, 1) := by decide +kernel
theorem dL_ask_10 : decode cL_ask 10 = .ok (.invokevirtual 15, 3) := by decide +kernel
theorem dL_ask_13 : decode cL_ask 13 = .ok (.pop, 1) := by decide +kernel
theorem dL_ask_14 : decode cL_ask 14 = .ok (.aload_n 0, 1) := by decide +kernel
theorem dL_ask_15 : decode cL_ask 15 = .ok (.iload_n 2, 1) := by decide +kernel
theorem dL_ask_16 : decode cL_ask 16 = .ok (.invokevirtual 21, 3) := by decide +kernel
theorem dL_ask_19 : decode cL_ask 19 = .ok (.pop, 1) := by decide +kernel
theorem dL_ask_20 : decode cL_ask 20 = .ok (.aload_n 0, 1) := by decide +kernel
theorem dL_ask_21 : decode cL_ask 21 = .ok (.iload_n 2, 1) := by decide +kernel
theorem dL_ask_22 : decode cL_ask 22 = .ok (.invokevirtual 24, 3) := by decide +kernel
theorem dL_ask_25 : decode cL_ask 25 = .ok (.pop, 1) := by decide +kernel
theorem dL_ask_26 : decode cL_ask 26 = .ok (.aload_n 0, 1) := by decide +kernel
theorem dL_ask_27 : decode cL_ask 27 = .ok (.iload_n 2, 1) := by decide +kernel
theorem dL_ask_28 : decode cL_ask 28 = .ok (.invokevirtual 28, 3) := by decide +kernel
theorem dL_ask_31 : decode cL_ask 31 = .ok (.pop, 1) := by decide +kernel
theorem dL_ask_32 : decode cL_ask 32 = .ok (.aload_n 0, 1) := by decide +kernel
theorem dL_ask_33 : decode cL_ask 33 = .ok (.iconst 1, 1) := by decide +kernel
theorem dL_ask_34 : decode cL_ask 34 = .ok (.iload_n 1, 1) := by decide +kernel
theorem dL_ask_35 : decode cL_ask 35 = .ok (.bipush 60, 2) := by decide +kernel
theorem dL_ask_37 : decode cL_ask 37 = .ok (.invokestatic 9, 3) := by decide +kernel
theorem dL_ask_40 : decode cL_ask 40 = .ok (.iadd, 1) := by decide +kernel
theorem dL_ask_41 : decode cL_ask 41 = .ok (.invokevirtual 31, 3) := by decide +kernel
theorem dL_ask_44 : decode cL_ask 44 = .ok (.pop, 1) := by decide +kernel
theorem dL_ask_45 : decode cL_ask 45 = .ok (.aload_n 0, 1) := by decide +kernel
theorem dL_ask_46 : decode cL_ask 46 = .ok (.iload_n 2, 1) := by decide +kernel
theorem dL_ask_47 : decode cL_ask 47 = .ok (.iconst 1, 1) := by decide +kernel
theorem dL_ask_48 : decode cL_ask 48 = .ok (.iload_n 1, 1) := by decide +kernel
theorem dL_ask_49 : decode cL_ask 49 = .ok (.iconst 3, 1) := by decide +kernel
theorem dL_ask_50 : decode cL_ask 50 = .ok (.ishr, 1) := by decide +kernel
theorem dL_ask_51 : decode cL_ask 51 = .ok (.bipush 60, 2) := by decide +kernel
theorem dL_ask_53 : decode cL_ask 53 = .ok (.invokestatic 9, 3) := by decide +kernel
theorem dL_ask_56 : decode cL_ask 56 = .ok (.iadd, 1) := by decide +kernel
theorem dL_ask_57 : decode cL_ask 57 = .ok (.invokevirtual 34, 3) := by decide +kernel
theorem dL_ask_60 : decode cL_ask 60 = .ok (.pop, 1) := by decide +kernel
theorem dL_ask_61 : decode cL_ask 61 = .ok (.aload_n 0, 1) := by decide +kernel
theorem dL_ask_62 : decode cL_ask 62 = .ok (.iconst 1, 1) := by decide +kernel
theorem dL_ask_63 : decode cL_ask 63 = .ok (.iload_n 1, 1) := by decide +kernel
theorem dL_ask_64 : decode cL_ask 64 = .ok (.iconst 5, 1) := by decide +kernel
theorem dL_ask_65 : decode cL_ask 65 = .ok (.ishr, 1) := by decide +kernel
theorem dL_ask_66 : decode cL_ask 66 = .ok (.bipush 60, 2) := by decide +kernel
theorem dL_ask_68 : decode cL_ask 68 = .ok (.invokestatic 9, 3) := by decide +kernel
theorem dL_ask_71 : decode cL_ask 71 = .ok (.iadd, 1) := by decide +kernel
theorem dL_ask_72 : decode cL_ask 72 = .ok (.invokevirtual 37, 3) := by decide +kernel
theorem dL_ask_75 : decode cL_ask 75 = .ok (.pop, 1) := by decide +kernel
theorem dL_ask_76 : decode cL_ask 76 = .ok (.aload_n 0, 1) := by decide +kernel
theorem dL_ask_77 : decode cL_ask 77 = .ok (.iload_n 2, 1) := by decide +kernel
theorem dL_ask_78 : decode cL_ask 78 = .ok (.iconst 1, 1) := by decide +kernel
theorem dL_ask_79 : decode cL_ask 79 = .ok (.iload_n 1, 1) := by decide +kernel
theorem dL_ask_80 : decode cL_ask 80 = .ok (.bipush 7, 2) := by decide +kernel
theorem dL_ask_82 : decode cL_ask 82 = .ok (.ishr, 1) := by decide +kernel
theorem dL_ask_83 : decode cL_ask 83 = .ok (.bipush 60, 2) := by decide +kernel
theorem dL_ask_85 : decode cL_ask 85 = .ok (.invokestatic 9, 3) := by decide +kernel
theorem dL_ask_88 : decode cL_ask 88 = .ok (.iadd, 1) := by decide +kernel
theorem dL_ask_89 : decode cL_ask 89 = .ok (.invokevirtual 40, 3) := by decide +kernel
theorem dL_ask_92 : decode cL_ask 92 = .ok (.pop, 1) := by decide +kernel
theorem dL_ask_93 : decode cL_ask 93 = .ok (.aload_n 0, 1) := by decide +kernel
theorem dL_ask_94 : decode cL_ask 94 = .ok (.invokevirtual 43, 3) := by decide +kernel
theorem dL_ask_97 : decode cL_ask 97 = .ok (.pop, 1) := by decide +kernel
theorem dL_ask_98 : decode cL_ask 98 = .ok (.aload_n 0, 1) := by decide +kernel
theorem dL_ask_99 : decode cL_ask 99 = .ok (.invokevirtual 47, 3) := by decide +kernel
theorem dL_ask_102 : decode cL_ask 102 = .ok (.pop, 1) := by decide +kernel
theorem dL_ask_103 : decode cL_ask 103 = .ok (.return_, 1) := by decide +kernel
theorem dL_isSame_0 : decode cL_isSame 0 = .ok (.iconst 0, 1) := by decide +kernel
theorem dL_isSame_1 : decode cL_isSame 1 = .ok (.istore_n 3, 1) := by decide +kernel
theorem dL_isSame_2 : decode cL_isSame 2 = .ok (.iload_n 3, 1) := by decide +kernel
theorem dL_isSame_3 : decode cL_isSame 3 = .ok (.bipush 40, 2) := by decide +kernel
theorem dL_isSame_5 : decode cL_isSame 5 = .ok (.if_icmp .ge 55, 3) := by decide +kernel
theorem dL_isSame_8 : decode cL_isSame 8 = .ok (.iload_n 2, 1) := by decide +kernel
theorem dL_isSame_9 : decode cL_isSame 9 = .ok (.bipush 103, 2) := by decide +kernel
theorem dL_isSame_11 : decode cL_isSame 11 = .ok (.iload_n 3, 1) := by decide +kernel
theorem dL_isSame_12 : decode cL_isSame 12 = .ok (.imul, 1) := by decide +kernel
theorem dL_isSame_13 : decode cL_isSame 13 = .ok (.iadd, 1) := by decide +kernel
theorem dL_isSame_14 : decode cL_isSame 14 = .ok (.sipush 4096, 3) := by decide +kernel
theorem dL_isSame_17 : decode cL_isSame 17 = .ok (.invokestatic 9, 3) := by decide +kernel
theorem dL_isSame_20 : decode cL_isSame 20 = .ok (.istore 4, 2) := by decide +kernel
theorem dL_isSame_22 : decode cL_isSame 22 = .ok (.aload_n 0, 1) := by decide +kernel
theorem dL_isSame_23 : decode cL_isSame 23 = .ok (.iload 4, 2) := by decide +kernel
theorem dL_isSame_25 : decode cL_isSame 25 = .ok (.invokevirtual 50, 3) := by decide +kernel
theorem dL_isSame_28 : decode cL_isSame 28 = .ok (.aload_n 1, 1) := by decide +kernel
theorem dL_isSame_29 : decode cL_isSame 29 = .ok (.iload 4, 2) := by decide +kernel
theorem dL_isSame_31 : decode cL_isSame 31 = .ok (.invokevirtual 50, 3) := by decide +kernel
theorem dL_isSame_34 : decode cL_isSame 34 = .ok (.if_icmp .ne 18, 3) := by decide +kernel
theorem dL_isSame_37 : decode cL_isSame 37 = .ok (.aload_n 0, 1) := by decide +kernel
theorem dL_isSame_38 : decode cL_isSame 38 = .ok (.iload 4, 2) := by decide +kernel
theorem dL_isSame_40 : decode cL_isSame 40 = .ok (.invokevirtual 53, 3) := by decide +kernel
theorem dL_isSame_43 : decode cL_isSame 43 = .ok (.aload_n 1, 1) := by decide +kernel
theorem dL_isSame_44 : decode cL_isSame 44 = .ok (.iload 4, 2) := by decide +kernel
theorem dL_isSame_46 : decode cL_isSame 46 = .ok (.invokevirtual 53, 3) := by decide +kernel
theorem dL_isSame_49 : decode cL_isSame 49 = .ok (.if_icmp .eq 5, 3) := by decide +kernel
theorem dL_isSame_52 : decode cL_isSame 52 = .ok (.iconst 0, 1) := by decide +kernel
theorem dL_isSame_53 : decode cL_isSame 53 = .ok (.ireturn, 1) := by decide +kernel
theorem dL_isSame_54 : decode cL_isSame 54 = .ok (.iinc 3 1, 3) := by decide +kernel
theorem dL_isSame_57 : decode cL_isSame 57 = .ok (.goto (-55), 3) := by decide +kernel
theorem dL_isSame_60 : decode cL_isSame 60 = .ok (.aload_n 0, 1) := by decide +kernel
theorem dL_isSame_61 : decode cL_isSame 61 = .ok (.invokevirtual 56, 3) := by decide +kernel
theorem dL_isSame_64 : decode cL_isSame 64 = .ok (.aload_n 1, 1) := by decide +kernel
theorem dL_isSame_65 : decode cL_isSame 65 = .ok (.invokevirtual 56, 3) := by decide +kernel
theorem dL_isSame_68 : decode cL_isSame 68 = .ok (.if_icmp .ne 161, 3) := by decide +kernel
theorem dL_isSame_71 : decode cL_isSame 71 = .ok (.aload_n 0, 1) := by decide +kernel
theorem dL_isSame_72 : decode cL_isSame 72 = .ok (.invokevirtual 59, 3) := by decide +kernel
theorem dL_isSame_75 : decode cL_isSame 75 = .ok (.aload_n 1, 1) := by decide +kernel
theorem dL_isSame_76 : decode cL_isSame 76 = .ok (.invokevirtual 59, 3) := by decide +kernel
theorem dL_isSame_79 : decode cL_isSame 79 = .ok (.if_icmp .ne 150, 3) := by decide +kernel
theorem dL_isSame_82 : decode cL_isSame 82 = .ok (.aload_n 0, 1) := by decide +kernel
theorem dL_isSame_83 : decode cL_isSame 83 = .ok (.invokevirtual 62, 3) := by decide +kernel
theorem dL_isSame_86 : decode cL_isSame 86 = .ok (.aload_n 1, 1) := by decide +kernel
theorem dL_isSame_87 : decode cL_isSame 87 = .ok (.invokevirtual 62, 3) := by decide +kernel
theorem dL_isSame_90 : decode cL_isSame 90 = .ok (.if_icmp .ne 139, 3) := by decide +kernel
theorem dL_isSame_93 : decode cL_isSame 93 = .ok (.aload_n 0, 1) := by decide +kernel
theorem dL_isSame_94 : decode cL_isSame 94 = .ok (.invokevirtual 65, 3) := by decide +kernel
theorem dL_isSame_97 : decode cL_isSame 97 = .ok (.aload_n 1, 1) := by decide +kernel
theorem dL_isSame_98 : decode cL_isSame 98 = .ok (.invokevirtual 65, 3) := by decide +kernel
theorem dL_isSame_101 : decode cL_isSame 101 = .ok (.if_icmp .ne 128, 3) := by decide +kernel
theorem dL_isSame_104 : decode cL_isSame 104 = .ok (.aload_n 0, 1) := by decide +kernel
theorem dL_isSame_105 : decode cL_isSame 105 = .ok (.invokevirtual 68, 3) := by decide +kernel
theorem dL_isSame_108 : decode cL_isSame 108 = .ok (.aload_n 1, 1) := by decide +kernel
theorem dL_isSame_109 : decode cL_isSame 109 = .ok (.invokevirtual 68, 3) := by decide +kernel
theorem dL_isSame_112 : decode cL_isSame 112 = .ok (.if_icmp .ne 117, 3) := by decide +kernel
theorem dL_isSame_115 : decode cL_isSame 115 = .ok (.aload_n 0, 1) := by decide +kernel
theorem dL_isSame_116 : decode cL_isSame 116 = .ok (.invokevirtual 71, 3) := by decide +kernel
theorem dL_isSame_119 : decode cL_isSame 119 = .ok (.aload_n 1, 1) := by decide +kernel
theorem dL_isSame_120 : decode cL_isSame 120 = .ok (.invokevirtual 71, 3) := by decide +kernel
theorem dL_isSame_123 : decode cL_isSame 123 = .ok (.if_icmp .ne 106, 3) := by decide +kernel
theorem dL_isSame_126 : decode cL_isSame 126 = .ok (.aload_n 0, 1) := by decide +kernel
theorem dL_isSame_127 : decode cL_isSame 127 = .ok (.invokevirtual 74, 3) := by decide +kernel
theorem dL_isSame_130 : decode cL_isSame 130 = .ok (.aload_n 1, 1) := by decide +kernel
theorem dL_isSame_131 : decode cL_isSame 131 = .ok (.invokevirtual 74, 3) := by decide +kernel
theorem dL_isSame_134 : decode cL_isSame 134 = .ok (.if_icmp .ne 95, 3) := by decide +kernel
theorem dL_isSame_137 : decode cL_isSame 137 = .ok (.aload_n 0, 1) := by decide +kernel
theorem dL_isSame_138 : decode cL_isSame 138 = .ok (.invokevirtual 77, 3) := by decide +kernel
theorem dL_isSame_141 : decode cL_isSame 141 = .ok (.aload_n 1, 1) := by decide +kernel
theorem dL_isSame_142 : decode cL_isSame 142 = .ok (.invokevirtual 77, 3) := by decide +kernel
theorem dL_isSame_145 : decode cL_isSame 145 = .ok (.if_icmp .ne 84, 3) := by decide +kernel
theorem dL_isSame_148 : decode cL_isSame 148 = .ok (.aload_n 0, 1) := by decide +kernel
theorem dL_isSame_149 : decode cL_isSame 149 = .ok (.invokevirtual 80, 3) := by decide +kernel
theorem dL_isSame_152 : decode cL_isSame 152 = .ok (.aload_n 1, 1) := by decide +kernel
theorem dL_isSame_153 : decode cL_isSame 153 = .ok (.invokevirtual 80, 3) := by decide +kernel
theorem dL_isSame_156 : decode cL_isSame 156 = .ok (.if_icmp .ne 73, 3) := by decide +kernel
theorem dL_isSame_159 : decode cL_isSame 159 = .ok (.aload_n 0, 1) := by decide +kernel
theorem dL_isSame_160 : decode cL_isSame 160 = .ok (.invokevirtual 83, 3) := by decide +kernel
theorem dL_isSame_163 : decode cL_isSame 163 = .ok (.aload_n 1, 1) := by decide +kernel
theorem dL_isSame_164 : decode cL_isSame 164 = .ok (.invokevirtual 83, 3) := by decide +kernel
theorem dL_isSame_167 : decode cL_isSame 167 = .ok (.if_icmp .ne 62, 3) := by decide +kernel
theorem dL_isSame_170 : decode cL_isSame 170 = .ok (.aload_n 0, 1) := by decide +kernel
theorem dL_isSame_171 : decode cL_isSame 171 = .ok (.invokevirtual 86, 3) := by decide +kernel
theorem dL_isSame_174 : decode cL_isSame 174 = .ok (.aload_n 1, 1) := by decide +kernel
theorem dL_isSame_175 : decode cL_isSame 175 = .ok (.invokevirtual 86, 3) := by decide +kernel
theorem dL_isSame_178 : decode cL_isSame 178 = .ok (.if_icmp .ne 51, 3) := by decide +kernel
theorem dL_isSame_181 : decode cL_isSame 181 = .ok (.aload_n 0, 1) := by decide +kernel
theorem dL_isSame_182 : decode cL_isSame 182 = .ok (.invokevirtual 89, 3) := by decide +kernel
theorem dL_isSame_185 : decode cL_isSame 185 = .ok (.aload_n 1, 1) := by decide +kernel
theorem dL_isSame_186 : decode cL_isSame 186 = .ok (.invokevirtual 89, 3) := by decide +kernel
theorem dL_isSame_189 : decode cL_isSame 189 = .ok (.if_icmp .ne 40, 3) := by decide +kernel
theorem dL_isSame_192 : decode cL_isSame 192 = .ok (.aload_n 0, 1) := by decide +kernel
theorem dL_isSame_193 : decode cL_isSame 193 = .ok (.invokevirtual 92, 3) := by decide +kernel
theorem dL_isSame_196 : decode cL_isSame 196 = .ok (.aload_n 1, 1) := by decide +kernel
theorem dL_isSame_197 : decode cL_isSame 197 = .ok (.invokevirtual 92, 3) := by decide +kernel
theorem dL_isSame_200 : decode cL_isSame 200 = .ok (.if_icmp .ne 29, 3) := by decide +kernel
theorem dL_isSame_203 : decode cL_isSame 203 = .ok (.aload_n 0, 1) := by decide +kernel
theorem dL_isSame_204 : decode cL_isSame 204 = .ok (.invokevirtual 95, 3) := by decide +kernel
theorem dL_isSame_207 : decode cL_isSame 207 = .ok (.aload_n 1, 1) := by decide +kernel
theorem dL_isSame_208 : decode cL_isSame 208 = .ok (.invokevirtual 95, 3) := by decide +kernel
theorem dL_isSame_211 : decode cL_isSame 211 = .ok (.if_icmp .ne 18, 3) := by decide +kernel
theorem dL_isSame_214 : decode cL_isSame 214 = .ok (.aload_n 0, 1) := by decide +kernel
theorem dL_isSame_215 : decode cL_isSame 215 = .ok (.invokevirtual 98, 3) := by decide +kernel
theorem dL_isSame_218 : decode cL_isSame 218 = .ok (.aload_n 1, 1) := by decide +kernel
theorem dL_isSame_219 : decode cL_isSame 219 = .ok (.invokevirtual 98, 3) := by decide +kernel
theorem dL_isSame_222 : decode cL_isSame 222 = .ok (.if_icmp .ne 7, 3) := by decide +kernel
theorem dL_isSame_225 : decode cL_isSame 225 = .ok (.iconst 1, 1) := by decide +kernel
theorem dL_isSame_226 : decode cL_isSame 226 = .ok (.goto 4, 3) := by decide +kernel
theorem dL_isSame_229 : decode cL_isSame 229 = .ok (.iconst 0, 1) := by decide +kernel
theorem dL_isSame_230 : decode cL_isSame 230 = .ok (.ireturn, 1) := by decide +kernel
theorem dL_isBound_0 : decode cL_isBound 0 = .ok (.aload_n 0, 1) := by decide +kernel
theorem dL_isBound_1 : decode cL_isBound 1 = .ok (.invokevirtual 56, 3) := by decide +kernel
theorem dL_isBound_4 : decode cL_isBound 4 = .ok (.ifCond .lt 142, 3) := by decide +kernel
theorem dL_isBound_7 : decode cL_isBound 7 = .ok (.aload_n 0, 1) := by decide +kernel
theorem dL_isBound_8 : decode cL_isBound 8 = .ok (.invokevirtual 56, 3) := by decide +kernel
theorem dL_isBound_11 : decode cL_isBound 11 = .ok (.sipush 256, 3) := by decide +kernel
theorem dL_isBound_14 : decode cL_isBound 14 = .ok (.if_icmp .ge 132, 3) := by decide +kernel
theorem dL_isBound_17 : decode cL_isBound 17 = .ok (.aload_n 0, 1) := by decide +kernel
theorem dL_isBound_18 : decode cL_isBound 18 = .ok (.invokevirtual 59, 3) := by decide +kernel
theorem dL_isBound_21 : decode cL_isBound 21 = .ok (.ifCond .lt 125, 3) := by decide +kernel
theorem dL_isBound_24 : decode cL_isBound 24 = .ok (.aload_n 0, 1) := by decide +kernel
theorem dL_isBound_25 : decode cL_isBound 25 = .ok (.invokevirtual 59, 3) := by decide +kernel
theorem dL_isBound_28 : decode cL_isBound 28 = .ok (.sipush 256, 3) := by decide +kernel
theorem dL_isBound_31 : decode cL_isBound 31 = .ok (.if_icmp .ge 115, 3) := by decide +kernel
theorem dL_isBound_34 : decode cL_isBound 34 = .ok (.aload_n 0, 1) := by decide +kernel
theorem dL_isBound_35 : decode cL_isBound 35 = .ok (.invokevirtual 62, 3) := by decide +kernel
theorem dL_isBound_38 : decode cL_isBound 38 = .ok (.ifCond .lt 108, 3) := by decide +kernel
theorem dL_isBound_41 : decode cL_isBound 41 = .ok (.aload_n 0, 1) := by decide +kernel
theorem dL_isBound_42 : decode cL_isBound 42 = .ok (.invokevirtual 62, 3) := by decide +kernel
theorem dL_isBound_45 : decode cL_isBound 45 = .ok (.sipush 256, 3) := by decide +kernel
theorem dL_isBound_48 : decode cL_isBound 48 = .ok (.if_icmp .ge 98, 3) := by decide +kernel
theorem dL_isBound_51 : decode cL_isBound 51 = .ok (.aload_n 0, 1) := by decide +kernel
theorem dL_isBound_52 : decode cL_isBound 52 = .ok (.invokevirtual 65, 3) := by decide +kernel
theorem dL_isBound_55 : decode cL_isBound 55 = .ok (.bipush (-32), 2) := by decide +kernel
theorem dL_isBound_57 : decode cL_isBound 57 = .ok (.iand, 1) := by decide +kernel
theorem dL_isBound_58 : decode cL_isBound 58 = .ok (.ifCond .ne 88, 3) := by decide +kernel
theorem dL_isBound_61 : decode cL_isBound 61 = .ok (.aload_n 0, 1) := by decide +kernel
theorem dL_isBound_62 : decode cL_isBound 62 = .ok (.invokevirtual 68, 3) := by decide +kernel
theorem dL_isBound_65 : decode cL_isBound 65 = .ok (.ifCond .lt 81, 3) := by decide +kernel
theorem dL_isBound_68 : decode cL_isBound 68 = .ok (.aload_n 0, 1) := by decide +kernel
theorem dL_isBound_69 : decode cL_isBound 69 = .ok (.invokevirtual 68, 3) := by decide +kernel
theorem dL_isBound_72 : decode cL_isBound 72 = .ok (.sipush 4096, 3) := by decide +kernel
theorem dL_isBound_75 : decode cL_isBound 75 = .ok (.if_icmp .ge 71, 3) := by decide +kernel
theorem dL_isBound_78 : decode cL_isBound 78 = .ok (.aload_n 0, 1) := by decide +kernel
theorem dL_isBound_79 : decode cL_isBound 79 = .ok (.invokevirtual 95, 3) := by decide +kernel
theorem dL_isBound_82 : decode cL_isBound 82 = .ok (.ifCond .lt 64, 3) := by decide +kernel
theorem dL_isBound_85 : decode cL_isBound 85 = .ok (.aload_n 0, 1) := by decide +kernel
theorem dL_isBound_86 : decode cL_isBound 86 = .ok (.invokevirtual 95, 3) := by decide +kernel
theorem dL_isBound_89 : decode cL_isBound 89 = .ok (.bipush 8, 2) := by decide +kernel
theorem dL_isBound_91 : decode cL_isBound 91 = .ok (.if_icmp .ge 55, 3) := by decide +kernel
theorem dL_isBound_94 : decode cL_isBound 94 = .ok (.aload_n 0, 1) := by decide +kernel
theorem dL_isBound_95 : decode cL_isBound 95 = .ok (.invokevirtual 80, 3) := by decide +kernel
theorem dL_isBound_98 : decode cL_isBound 98 = .ok (.bipush 40, 2) := by decide +kernel
theorem dL_isBound_100 : decode cL_isBound 100 = .ok (.if_icmp .gt 46, 3) := by decide +kernel
theorem dL_isBound_103 : decode cL_isBound 103 = .ok (.aload_n 0, 1) := by decide +kernel
theorem dL_isBound_104 : decode cL_isBound 104 = .ok (.invokevirtual 101, 3) := by decide +kernel
theorem dL_isBound_107 : decode cL_isBound 107 = .ok (.sipush 200, 3) := by decide +kernel
theorem dL_isBound_110 : decode cL_isBound 110 = .ok (.if_icmp .gt 36, 3) := by decide +kernel
theorem dL_isBound_113 : decode cL_isBound 113 = .ok (.aload_n 0, 1) := by decide +kernel
theorem dL_isBound_114 : decode cL_isBound 114 = .ok (.invokevirtual 89, 3) := by decide +kernel
theorem dL_isBound_117 : decode cL_isBound 117 = .ok (.bipush 16, 2) := by decide +kernel
theorem dL_isBound_119 : decode cL_isBound 119 = .ok (.if_icmp .gt 27, 3) := by decide +kernel
theorem dL_isBound_122 : decode cL_isBound 122 = .ok (.aload_n 0, 1) := by decide +kernel
theorem dL_isBound_123 : decode cL_isBound 123 = .ok (.invokevirtual 86, 3) := by decide +kernel
theorem dL_isBound_126 : decode cL_isBound 126 = .ok (.bipush 16, 2) := by decide +kernel
theorem dL_isBound_128 : decode cL_isBound 128 = .ok (.if_icmp .ge 18, 3) := by decide +kernel
theorem dL_isBound_131 : decode cL_isBound 131 = .ok (.aload_n 0, 1) := by decide +kernel
theorem dL_isBound_132 : decode cL_isBound 132 = .ok (.invokevirtual 77, 3) := by decide +kernel
theorem dL_isBound_135 : decode cL_isBound 135 = .ok (.aload_n 0, 1) := by decide +kernel
theorem dL_isBound_136 : decode cL_isBound 136 = .ok (.invokevirtual 74, 3) := by decide +kernel
theorem dL_isBound_139 : decode cL_isBound 139 = .ok (.if_icmp .gt 7, 3) := by decide +kernel
theorem dL_isBound_142 : decode cL_isBound 142 = .ok (.iconst 1, 1) := by decide +kernel
theorem dL_isBound_143 : decode cL_isBound 143 = .ok (.goto 4, 3) := by decide +kernel
theorem dL_isBound_146 : decode cL_isBound 146 = .ok (.iconst 0, 1) := by decide +kernel
theorem dL_isBound_147 : decode cL_isBound 147 = .ok (.ireturn, 1) := by decide +kernel
theorem dL_law_0 : decode cL_law 0 = .ok (.new 16, 3) := by decide +kernel
theorem dL_law_3 : decode cL_law 3 = .ok (.dup, 1) := by decide +kernel
theorem dL_law_4 : decode cL_law 4 = .ok (.invokespecial 104, 3) := by decide +kernel
theorem dL_law_7 : decode cL_law 7 = .ok (.astore_n 1, 1) := by decide +kernel
theorem dL_law_8 : decode cL_law 8 = .ok (.new 16, 3) := by decide +kernel
theorem dL_law_11 : decode cL_law 11 = .ok (.dup, 1) := by decide +kernel
theorem dL_law_12 : decode cL_law 12 = .ok (.invokespecial 104, 3) := by decide +kernel
theorem dL_law_15 : decode cL_law 15 = .ok (.astore_n 2, 1) := by decide +kernel
theorem dL_law_16 : decode cL_law 16 = .ok (.sipush 512, 3) := by decide +kernel
theorem dL_law_19 : decode cL_law 19 = .ok (.aload_n 0, 1) := by decide +kernel
theorem dL_law_20 : decode cL_law 20 = .ok (.iconst 0, 1) := by decide +kernel
theorem dL_law_21 : decode cL_law 21 = .ok (.invokestatic 105, 3) := by decide +kernel
theorem dL_law_24 : decode cL_law 24 = .ok (.sipush 900, 3) := by decide +kernel
theorem dL_law_27 : decode cL_law 27 = .ok (.invokestatic 9, 3) := by decide +kernel
theorem dL_law_30 : decode cL_law 30 = .ok (.iadd, 1) := by decide +kernel
theorem dL_law_31 : decode cL_law 31 = .ok (.istore_n 3, 1) := by decide +kernel
theorem dL_law_32 : decode cL_law 32 = .ok (.iconst 0, 1) := by decide +kernel
theorem dL_law_33 : decode cL_law 33 = .ok (.istore 4, 2) := by decide +kernel
theorem dL_law_35 : decode cL_law 35 = .ok (.iload 4, 2) := by decide +kernel
theorem dL_law_37 : decode cL_law 37 = .ok (.bipush 90, 2) := by decide +kernel
theorem dL_law_39 : decode cL_law 39 = .ok (.if_icmp .ge 126, 3) := by decide +kernel
theorem dL_law_42 : decode cL_law 42 = .ok (.aload_n 0, 1) := by decide +kernel
theorem dL_law_43 : decode cL_law 43 = .ok (.iconst 1, 1) := by decide +kernel
theorem dL_law_44 : decode cL_law 44 = .ok (.iload 4, 2) := by decide +kernel
theorem dL_law_46 : decode cL_law 46 = .ok (.bipush 13, 2) := by decide +kernel
theorem dL_law_48 : decode cL_law 48 = .ok (.irem, 1) := by decide +kernel
theorem dL_law_49 : decode cL_law 49 = .ok (.iadd, 1) := by decide +kernel
theorem dL_law_50 : decode cL_law 50 = .ok (.invokestatic 105, 3) := by decide +kernel
theorem dL_law_53 : decode cL_law 53 = .ok (.iload 4, 2) := by decide +kernel
theorem dL_law_55 : decode cL_law 55 = .ok (.bipush 13, 2) := by decide +kernel
theorem dL_law_57 : decode cL_law 57 = .ok (.idiv, 1) := by decide +kernel
theorem dL_law_58 : decode cL_law 58 = .ok (.iconst 4, 1) := by decide +kernel
theorem dL_law_59 : decode cL_law 59 = .ok (.imul, 1) := by decide +kernel
theorem dL_law_60 : decode cL_law 60 = .ok (.ishr, 1) := by decide +kernel
theorem dL_law_61 : decode cL_law 61 = .ok (.istore 5, 2) := by decide +kernel
theorem dL_law_63 : decode cL_law 63 = .ok (.iload 5, 2) := by decide +kernel
theorem dL_law_65 : decode cL_law 65 = .ok (.iconst 3, 1) := by decide +kernel
theorem dL_law_66 : decode cL_law 66 = .ok (.invokestatic 9, 3) := by decide +kernel
theorem dL_law_69 : decode cL_law 69 = .ok (.ifCond .ne 15, 3) := by decide +kernel
theorem dL_law_72 : decode cL_law 72 = .ok (.iload 5, 2) := by decide +kernel
theorem dL_law_74 : decode cL_law 74 = .ok (.iconst 2, 1) := by decide +kernel
theorem dL_law_75 : decode cL_law 75 = .ok (.ishr, 1) := by decide +kernel
theorem dL_law_76 : decode cL_law 76 = .ok (.bipush 32, 2) := by decide +kernel
theorem dL_law_78 : decode cL_law 78 = .ok (.invokestatic 9, 3) := by decide +kernel
theorem dL_law_81 : decode cL_law 81 = .ok (.goto 54, 3) := by decide +kernel
theorem dL_law_84 : decode cL_law 84 = .ok (.iload 5, 2) := by decide +kernel
theorem dL_law_86 : decode cL_law 86 = .ok (.iconst 2, 1) := by decide +kernel
theorem dL_law_87 : decode cL_law 87 = .ok (.ishr, 1) := by decide +kernel
theorem dL_law_88 : decode cL_law 88 = .ok (.iconst 5, 1) := by decide +kernel
theorem dL_law_89 : decode cL_law 89 = .ok (.invokestatic 9, 3) := by decide +kernel
theorem dL_law_92 : decode cL_law 92 = .ok (.ifCond .ne 16, 3) := by decide +kernel
theorem dL_law_95 : decode cL_law 95 = .ok (.iload 5, 2) := by decide +kernel
theorem dL_law_97 : decode cL_law 97 = .ok (.iconst 4, 1) := by decide +kernel
theorem dL_law_98 : decode cL_law 98 = .ok (.ishr, 1) := by decide +kernel
theorem dL_law_99 : decode cL_law 99 = .ok (.sipush 256, 3) := by decide +kernel
theorem dL_law_102 : decode cL_law 102 = .ok (.invokestatic 9, 3) := by decide +kernel
theorem dL_law_105 : decode cL_law 105 = .ok (.goto 30, 3) := by decide +kernel
theorem dL_law_108 : decode cL_law 108 = .ok (.bipush 8, 2) := by decide +kernel
theorem dL_law_110 : decode cL_law 110 = .ok (.iconst 4, 1) := by decide +kernel
theorem dL_law_111 : decode cL_law 111 = .ok (.iload 5, 2) := by decide +kernel
theorem dL_law_113 : decode cL_law 113 = .ok (.iconst 5, 1) := by decide +kernel
theorem dL_law_114 : decode cL_law 114 = .ok (.ishr, 1) := by decide +kernel
theorem dL_law_115 : decode cL_law 115 = .ok (.bipush 22, 2) := by decide +kernel
theorem dL_law_117 : decode cL_law 117 = .ok (.invokestatic 9, 3) := by decide +kernel
theorem dL_law_120 : decode cL_law 120 = .ok (.iadd, 1) := by decide +kernel
theorem dL_law_121 : decode cL_law 121 = .ok (.imul, 1) := by decide +kernel
theorem dL_law_122 : decode cL_law 122 = .ok (.iconst 1, 1) := by decide +kernel
theorem dL_law_123 : decode cL_law 123 = .ok (.iadd, 1) := by decide +kernel
theorem dL_law_124 : decode cL_law 124 = .ok (.iload 5, 2) := by decide +kernel
theorem dL_law_126 : decode cL_law 126 = .ok (.bipush 9, 2) := by decide +kernel
theorem dL_law_128 : decode cL_law 128 = .ok (.ishr, 1) := by decide +kernel
theorem dL_law_129 : decode cL_law 129 = .ok (.bipush 6, 2) := by decide +kernel
theorem dL_law_131 : decode cL_law 131 = .ok (.invokestatic 9, 3) := by decide +kernel
theorem dL_law_134 : decode cL_law 134 = .ok (.iadd, 1) := by decide +kernel
theorem dL_law_135 : decode cL_law 135 = .ok (.istore 6, 2) := by decide +kernel
theorem dL_law_137 : decode cL_law 137 = .ok (.aload_n 1, 1) := by decide +kernel
theorem dL_law_138 : decode cL_law 138 = .ok (.iload_n 3, 1) := by decide +kernel
theorem dL_law_139 : decode cL_law 139 = .ok (.iload 4, 2) := by decide +kernel
theorem dL_law_141 : decode cL_law 141 = .ok (.iadd, 1) := by decide +kernel
theorem dL_law_142 : decode cL_law 142 = .ok (.iload 6, 2) := by decide +kernel
theorem dL_law_144 : decode cL_law 144 = .ok (.invokevirtual 109, 3) := by decide +kernel
theorem dL_law_147 : decode cL_law 147 = .ok (.pop, 1) := by decide +kernel
theorem dL_law_148 : decode cL_law 148 = .ok (.aload_n 2, 1) := by decide +kernel
theorem dL_law_149 : decode cL_law 149 = .ok (.iload_n 3, 1) := by decide +kernel
theorem dL_law_150 : decode cL_law 150 = .ok (.iload 4, 2) := by decide +kernel
theorem dL_law_152 : decode cL_law 152 = .ok (.iadd, 1) := by decide +kernel
theorem dL_law_153 : decode cL_law 153 = .ok (.iload 6, 2) := by decide +kernel
theorem dL_law_155 : decode cL_law 155 = .ok (.invokevirtual 109, 3) := by decide +kernel
theorem dL_law_158 : decode cL_law 158 = .ok (.pop, 1) := by decide +kernel
theorem dL_law_159 : decode cL_law 159 = .ok (.iinc 4 1, 3) := by decide +kernel
theorem dL_law_162 : decode cL_law 162 = .ok (.goto (-127), 3) := by decide +kernel
theorem dL_law_165 : decode cL_law 165 = .ok (.iconst 0, 1) := by decide +kernel
theorem dL_law_166 : decode cL_law 166 = .ok (.istore 4, 2) := by decide +kernel
theorem dL_law_168 : decode cL_law 168 = .ok (.iload 4, 2) := by decide +kernel
theorem dL_law_170 : decode cL_law 170 = .ok (.iconst 5, 1) := by decide +kernel
theorem dL_law_171 : decode cL_law 171 = .ok (.if_icmp .ge 79, 3) := by decide +kernel
theorem dL_law_174 : decode cL_law 174 = .ok (.iload 4, 2) := by decide +kernel
theorem dL_law_176 : decode cL_law 176 = .ok (.iconst 4, 1) := by decide +kernel
theorem dL_law_177 : decode cL_law 177 = .ok (.if_icmp .ne 19, 3) := by decide +kernel
theorem dL_law_180 : decode cL_law 180 = .ok (.iload_n 3, 1) := by decide +kernel
theorem dL_law_181 : decode cL_law 181 = .ok (.aload_n 0, 1) := by decide +kernel
theorem dL_law_182 : decode cL_law 182 = .ok (.bipush 14, 2) := by decide +kernel
theorem dL_law_184 : decode cL_law 184 = .ok (.invokestatic 105, 3) := by decide +kernel
theorem dL_law_187 : decode cL_law 187 = .ok (.bipush 20, 2) := by decide +kernel
theorem dL_law_189 : decode cL_law 189 = .ok (.invokestatic 9, 3) := by decide +kernel
theorem dL_law_192 : decode cL_law 192 = .ok (.iadd, 1) := by decide +kernel
theorem dL_law_193 : decode cL_law 193 = .ok (.goto 31, 3) := by decide +kernel
theorem dL_law_196 : decode cL_law 196 = .ok (.aload_n 0, 1) := by decide +kernel
theorem dL_law_197 : decode cL_law 197 = .ok (.bipush 14, 2) := by decide +kernel
theorem dL_law_199 : decode cL_law 199 = .ok (.invokestatic 105, 3) := by decide +kernel
theorem dL_law_202 : decode cL_law 202 = .ok (.iconst 5, 1) := by decide +kernel
theorem dL_law_203 : decode cL_law 203 = .ok (.iload 4, 2) := by decide +kernel
theorem dL_law_205 : decode cL_law 205 = .ok (.imul, 1) := by decide +kernel
theorem dL_law_206 : decode cL_law 206 = .ok (.ishr, 1) := by decide +kernel
theorem dL_law_207 : decode cL_law 207 = .ok (.iload 4, 2) := by decide +kernel
theorem dL_law_209 : decode cL_law 209 = .ok (.iconst 3, 1) := by decide +kernel
theorem dL_law_210 : decode cL_law 210 = .ok (.if_icmp .ne 8, 3) := by decide +kernel
theorem dL_law_213 : decode cL_law 213 = .ok (.bipush 32, 2) := by decide +kernel
theorem dL_law_215 : decode cL_law 215 = .ok (.goto 6, 3) := by decide +kernel
theorem dL_law_218 : decode cL_law 218 = .ok (.sipush 256, 3) := by decide +kernel
theorem dL_law_221 : decode cL_law 221 = .ok (.invokestatic 9, 3) := by decide +kernel
theorem dL_law_224 : decode cL_law 224 = .ok (.istore 5, 2) := by decide +kernel
theorem dL_law_226 : decode cL_law 226 = .ok (.aload_n 1, 1) := by decide +kernel
theorem dL_law_227 : decode cL_law 227 = .ok (.iload 4, 2) := by decide +kernel
theorem dL_law_229 : decode cL_law 229 = .ok (.iload 5, 2) := by decide +kernel
theorem dL_law_231 : decode cL_law 231 = .ok (.invokevirtual 112, 3) := by decide +kernel
theorem dL_law_234 : decode cL_law 234 = .ok (.pop, 1) := by decide +kernel
theorem dL_law_235 : decode cL_law 235 = .ok (.aload_n 2, 1) := by decide +kernel
theorem dL_law_236 : decode cL_law 236 = .ok (.iload 4, 2) := by decide +kernel
theorem dL_law_238 : decode cL_law 238 = .ok (.iload 5, 2) := by decide +kernel
theorem dL_law_240 : decode cL_law 240 = .ok (.invokevirtual 112, 3) := by decide +kernel
theorem dL_law_243 : decode cL_law 243 = .ok (.pop, 1) := by decide +kernel
theorem dL_law_244 : decode cL_law 244 = .ok (.iinc 4 1, 3) := by decide +kernel
theorem dL_law_247 : decode cL_law 247 = .ok (.goto (-79), 3) := by decide +kernel
theorem dL_law_250 : decode cL_law 250 = .ok (.iconst 0, 1) := by decide +kernel
theorem dL_law_251 : decode cL_law 251 = .ok (.istore 4, 2) := by decide +kernel
theorem dL_law_253 : decode cL_law 253 = .ok (.iload 4, 2) := by decide +kernel
theorem dL_law_255 : decode cL_law 255 = .ok (.bipush 12, 2) := by decide +kernel
theorem dL_law_257 : decode cL_law 257 = .ok (.if_icmp .ge 386, 3) := by decide +kernel
theorem dL_law_260 : decode cL_law 260 = .ok (.aload_n 0, 1) := by decide +kernel
theorem dL_law_261 : decode cL_law 261 = .ok (.iload 4, 2) := by decide +kernel
theorem dL_law_263 : decode cL_law 263 = .ok (.invokestatic 105, 3) := by decide +kernel
theorem dL_law_266 : decode cL_law 266 = .ok (.iconst 3, 1) := by decide +kernel
theorem dL_law_267 : decode cL_law 267 = .ok (.ishr, 1) := by decide +kernel
theorem dL_law_268 : decode cL_law 268 = .ok (.istore 5, 2) := by decide +kernel
theorem dL_law_270 : decode cL_law 270 = .ok (.iload 5, 2) := by decide +kernel
theorem dL_law_272 : decode cL_law 272 = .ok (.bipush 9, 2) := by decide +kernel
theorem dL_law_274 : decode cL_law 274 = .ok (.invokestatic 9, 3) := by decide +kernel
theorem dL_law_277 : decode cL_law 277 = .ok (.istore 6, 2) := by decide +kernel
theorem dL_law_279 : decode cL_law 279 = .ok (.iload 6, 2) := by decide +kernel
theorem dL_law_281 : decode cL_law 281 = .ok (.ifCond .ne 45, 3) := by decide +kernel
theorem dL_law_284 : decode cL_law 284 = .ok (.aload_n 1, 1) := by decide +kernel
theorem dL_law_285 : decode cL_law 285 = .ok (.invokevirtual 89, 3) := by decide +kernel
theorem dL_law_288 : decode cL_law 288 = .ok (.bipush 16, 2) := by decide +kernel
theorem dL_law_290 : decode cL_law 290 = .ok (.if_icmp .ge 36, 3) := by decide +kernel
theorem dL_law_293 : decode cL_law 293 = .ok (.aload_n 1, 1) := by decide +kernel
theorem dL_law_294 : decode cL_law 294 = .ok (.iload 5, 2) := by decide +kernel
theorem dL_law_296 : decode cL_law 296 = .ok (.iconst 4, 1) := by decide +kernel
theorem dL_law_297 : decode cL_law 297 = .ok (.ishr, 1) := by decide +kernel
theorem dL_law_298 : decode cL_law 298 = .ok (.sipush 256, 3) := by decide +kernel
theorem dL_law_301 : decode cL_law 301 = .ok (.invokestatic 9, 3) := by decide +kernel
theorem dL_law_304 : decode cL_law 304 = .ok (.invokevirtual 115, 3) := by decide +kernel
theorem dL_law_307 : decode cL_law 307 = .ok (.aload_n 2, 1) := by decide +kernel
theorem dL_law_308 : decode cL_law 308 = .ok (.iload 5, 2) := by decide +kernel
theorem dL_law_310 : decode cL_law 310 = .ok (.iconst 4, 1) := by decide +kernel
theorem dL_law_311 : decode cL_law 311 = .ok (.ishr, 1) := by decide +kernel
theorem dL_law_312 : decode cL_law 312 = .ok (.sipush 256, 3) := by decide +kernel
theorem dL_law_315 : decode cL_law 315 = .ok (.invokestatic 9, 3) := by decide +kernel
theorem dL_law_318 : decode cL_law 318 = .ok (.invokevirtual 115, 3) := by decide +kernel
theorem dL_law_321 : decode cL_law 321 = .ok (.if_icmp .eq 5, 3) := by decide +kernel
theorem dL_law_324 : decode cL_law 324 = .ok (.iconst 0, 1) := by decide +kernel
theorem dL_law_325 : decode cL_law 325 = .ok (.ireturn, 1) := by decide +kernel
theorem dL_law_326 : decode cL_law 326 = .ok (.iload 6, 2) := by decide +kernel
theorem dL_law_328 : decode cL_law 328 = .ok (.iconst 1, 1) := by decide +kernel
theorem dL_law_329 : decode cL_law 329 = .ok (.if_icmp .ne 16, 3) := by decide +kernel
theorem dL_law_332 : decode cL_law 332 = .ok (.aload_n 1, 1) := by decide +kernel
theorem dL_law_333 : decode cL_law 333 = .ok (.invokevirtual 118, 3) := by decide +kernel
theorem dL_law_336 : decode cL_law 336 = .ok (.aload_n 2, 1) := by decide +kernel
theorem dL_law_337 : decode cL_law 337 = .ok (.invokevirtual 118, 3) := by decide +kernel
theorem dL_law_340 : decode cL_law 340 = .ok (.if_icmp .eq 5, 3) := by decide +kernel
theorem dL_law_343 : decode cL_law 343 = .ok (.iconst 0, 1) := by decide +kernel
theorem dL_law_344 : decode cL_law 344 = .ok (.ireturn, 1) := by decide +kernel
theorem dL_law_345 : decode cL_law 345 = .ok (.iload 6, 2) := by decide +kernel
theorem dL_law_347 : decode cL_law 347 = .ok (.iconst 2, 1) := by decide +kernel
theorem dL_law_348 : decode cL_law 348 = .ok (.if_icmp .ne 16, 3) := by decide +kernel
theorem dL_law_351 : decode cL_law 351 = .ok (.aload_n 1, 1) := by decide +kernel
theorem dL_law_352 : decode cL_law 352 = .ok (.invokevirtual 121, 3) := by decide +kernel
theorem dL_law_355 : decode cL_law 355 = .ok (.aload_n 2, 1) := by decide +kernel
theorem dL_law_356 : decode cL_law 356 = .ok (.invokevirtual 121, 3) := by decide +kernel
theorem dL_law_359 : decode cL_law 359 = .ok (.if_icmp .eq 5, 3) := by decide +kernel
theorem dL_law_362 : decode cL_law 362 = .ok (.iconst 0, 1) := by decide +kernel
theorem dL_law_363 : decode cL_law 363 = .ok (.ireturn, 1) := by decide +kernel
theorem dL_law_364 : decode cL_law 364 = .ok (.iconst 1, 1) := by decide +kernel
theorem dL_law_365 : decode cL_law 365 = .ok (.iload 5, 2) := by decide +kernel
theorem dL_law_367 : decode cL_law 367 = .ok (.iconst 4, 1) := by decide +kernel
theorem dL_law_368 : decode cL_law 368 = .ok (.ishr, 1) := by decide +kernel
theorem dL_law_369 : decode cL_law 369 = .ok (.bipush 40, 2) := by decide +kernel
theorem dL_law_371 : decode cL_law 371 = .ok (.invokestatic 9, 3) := by decide +kernel
theorem dL_law_374 : decode cL_law 374 = .ok (.iadd, 1) := by decide +kernel
theorem dL_law_375 : decode cL_law 375 = .ok (.istore 7, 2) := by decide +kernel
theorem dL_law_377 : decode cL_law 377 = .ok (.aload_n 1, 1) := by decide +kernel
theorem dL_law_378 : decode cL_law 378 = .ok (.invokevirtual 101, 3) := by decide +kernel
theorem dL_law_381 : decode cL_law 381 = .ok (.istore 8, 2) := by decide +kernel
theorem dL_law_383 : decode cL_law 383 = .ok (.aload_n 1, 1) := by decide +kernel
theorem dL_law_384 : decode cL_law 384 = .ok (.invokevirtual 125, 3) := by decide +kernel
theorem dL_law_387 : decode cL_law 387 = .ok (.lstore 9, 2) := by decide +kernel
theorem dL_law_389 : decode cL_law 389 = .ok (.aload_n 1, 1) := by decide +kernel
theorem dL_law_390 : decode cL_law 390 = .ok (.iload 5, 2) := by decide +kernel
theorem dL_law_392 : decode cL_law 392 = .ok (.invokestatic 129, 3) := by decide +kernel
theorem dL_law_395 : decode cL_law 395 = .ok (.aload_n 1, 1) := by decide +kernel
theorem dL_law_396 : decode cL_law 396 = .ok (.invokevirtual 125, 3) := by decide +kernel
theorem dL_law_399 : decode cL_law 399 = .ok (.lload 9, 2) := by decide +kernel
theorem dL_law_401 : decode cL_law 401 = .ok (.lcmp, 1) := by decide +kernel
theorem dL_law_402 : decode cL_law 402 = .ok (.ifCond .eq 5, 3) := by decide +kernel
theorem dL_law_405 : decode cL_law 405 = .ok (.iconst 0, 1) := by decide +kernel
theorem dL_law_406 : decode cL_law 406 = .ok (.ireturn, 1) := by decide +kernel
theorem dL_law_407 : decode cL_law 407 = .ok (.aload_n 1, 1) := by decide +kernel
theorem dL_law_408 : decode cL_law 408 = .ok (.iload 7, 2) := by decide +kernel
theorem dL_law_410 : decode cL_law 410 = .ok (.invokevirtual 31, 3) := by decide +kernel
theorem dL_law_413 : decode cL_law 413 = .ok (.istore 11, 2) := by decide +kernel
theorem dL_law_415 : decode cL_law 415 = .ok (.aload_n 1, 1) := by decide +kernel
theorem dL_law_416 : decode cL_law 416 = .ok (.invokevirtual 92, 3) := by decide +kernel
theorem dL_law_419 : decode cL_law 419 = .ok (.aload_n 1, 1) := by decide +kernel
theorem dL_law_420 : decode cL_law 420 = .ok (.iload 7, 2) := by decide +kernel
theorem dL_law_422 : decode cL_law 422 = .ok (.invokevirtual 37, 3) := by decide +kernel
theorem dL_law_425 : decode cL_law 425 = .ok (.iadd, 1) := by decide +kernel
theorem dL_law_426 : decode cL_law 426 = .ok (.istore 12, 2) := by decide +kernel
theorem dL_law_428 : decode cL_law 428 = .ok (.aload_n 1, 1) := by decide +kernel
theorem dL_law_429 : decode cL_law 429 = .ok (.iload 7, 2) := by decide +kernel
theorem dL_law_431 : decode cL_law 431 = .ok (.invokevirtual 133, 3) := by decide +kernel
theorem dL_law_434 : decode cL_law 434 = .ok (.istore 13, 2) := by decide +kernel
theorem dL_law_436 : decode cL_law 436 = .ok (.iconst 0, 1) := by decide +kernel
theorem dL_law_437 : decode cL_law 437 = .ok (.istore 14, 2) := by decide +kernel
theorem dL_law_439 : decode cL_law 439 = .ok (.iconst 0, 1) := by decide +kernel
theorem dL_law_440 : decode cL_law 440 = .ok (.istore 15, 2) := by decide +kernel
theorem dL_law_442 : decode cL_law 442 = .ok (.iload 15, 2) := by decide +kernel
theorem dL_law_444 : decode cL_law 444 = .ok (.iload 7, 2) := by decide +kernel
theorem dL_law_446 : decode cL_law 446 = .ok (.if_icmp .ge 26, 3) := by decide +kernel
theorem dL_law_449 : decode cL_law 449 = .ok (.aload_n 2, 1) := by decide +kernel
theorem dL_law_450 : decode cL_law 450 = .ok (.invokevirtual 71, 3) := by decide +kernel
theorem dL_law_453 : decode cL_law 453 = .ok (.iconst 2, 1) := by decide +kernel
theorem dL_law_454 : decode cL_law 454 = .ok (.if_icmp .ge 18, 3) := by decide +kernel
theorem dL_law_457 : decode cL_law 457 = .ok (.iload 15, 2) := by decide +kernel
theorem dL_law_459 : decode cL_law 459 = .ok (.aload_n 2, 1) := by decide +kernel
theorem dL_law_460 : decode cL_law 460 = .ok (.invokevirtual 136, 3) := by decide +kernel
theorem dL_law_463 : decode cL_law 463 = .ok (.iadd, 1) := by decide +kernel
theorem dL_law_464 : decode cL_law 464 = .ok (.istore 15, 2) := by decide +kernel
theorem dL_law_466 : decode cL_law 466 = .ok (.iinc 14 1, 3) := by decide +kernel
theorem dL_law_469 : decode cL_law 469 = .ok (.goto (-27), 3) := by decide +kernel
theorem dL_law_472 : decode cL_law 472 = .ok (.iload 13, 2) := by decide +kernel
theorem dL_law_474 : decode cL_law 474 = .ok (.iload 15, 2) := by decide +kernel
theorem dL_law_476 : decode cL_law 476 = .ok (.if_icmp .ne 47, 3) := by decide +kernel
theorem dL_law_479 : decode cL_law 479 = .ok (.aload_n 1, 1) := by decide +kernel
theorem dL_law_480 : decode cL_law 480 = .ok (.invokevirtual 92, 3) := by decide +kernel
theorem dL_law_483 : decode cL_law 483 = .ok (.iload 12, 2) := by decide +kernel
theorem dL_law_485 : decode cL_law 485 = .ok (.if_icmp .ne 38, 3) := by decide +kernel
theorem dL_law_488 : decode cL_law 488 = .ok (.aload_n 1, 1) := by decide +kernel
theorem dL_law_489 : decode cL_law 489 = .ok (.aload_n 2, 1) := by decide +kernel
theorem dL_law_490 : decode cL_law 490 = .ok (.iload 5, 2) := by decide +kernel
theorem dL_law_492 : decode cL_law 492 = .ok (.invokestatic 139, 3) := by decide +kernel
theorem dL_law_495 : decode cL_law 495 = .ok (.ifCond .eq 28, 3) := by decide +kernel
theorem dL_law_498 : decode cL_law 498 = .ok (.aload_n 1, 1) := by decide +kernel
theorem dL_law_499 : decode cL_law 499 = .ok (.invokestatic 143, 3) := by decide +kernel
theorem dL_law_502 : decode cL_law 502 = .ok (.ifCond .eq 21, 3) := by decide +kernel
theorem dL_law_505 : decode cL_law 505 = .ok (.aload_n 1, 1) := by decide +kernel
theorem dL_law_506 : decode cL_law 506 = .ok (.invokevirtual 101, 3) := by decide +kernel
theorem dL_law_509 : decode cL_law 509 = .ok (.sipush 200, 3) := by decide +kernel
theorem dL_law_512 : decode cL_law 512 = .ok (.iload 8, 2) := by decide +kernel
theorem dL_law_514 : decode cL_law 514 = .ok (.iload 14, 2) := by decide +kernel
theorem dL_law_516 : decode cL_law 516 = .ok (.iadd, 1) := by decide +kernel
theorem dL_law_517 : decode cL_law 517 = .ok (.invokestatic 147, 3) := by decide +kernel
theorem dL_law_520 : decode cL_law 520 = .ok (.if_icmp .eq 5, 3) := by decide +kernel
theorem dL_law_523 : decode cL_law 523 = .ok (.iconst 0, 1) := by decide +kernel
theorem dL_law_524 : decode cL_law 524 = .ok (.ireturn, 1) := by decide +kernel
theorem dL_law_525 : decode cL_law 525 = .ok (.iload 11, 2) := by decide +kernel
theorem dL_law_527 : decode cL_law 527 = .ok (.ifCond .lt 21, 3) := by decide +kernel
theorem dL_law_530 : decode cL_law 530 = .ok (.aload_n 1, 1) := by decide +kernel
theorem dL_law_531 : decode cL_law 531 = .ok (.invokevirtual 71, 3) := by decide +kernel
theorem dL_law_534 : decode cL_law 534 = .ok (.iconst 2, 1) := by decide +kernel
theorem dL_law_535 : decode cL_law 535 = .ok (.if_icmp .lt 21, 3) := by decide +kernel
theorem dL_law_538 : decode cL_law 538 = .ok (.iload 13, 2) := by decide +kernel
theorem dL_law_540 : decode cL_law 540 = .ok (.iload 11, 2) := by decide +kernel
theorem dL_law_542 : decode cL_law 542 = .ok (.if_icmp .eq 16, 3) := by decide +kernel
theorem dL_law_545 : decode cL_law 545 = .ok (.goto 11, 3) := by decide +kernel
theorem dL_law_548 : decode cL_law 548 = .ok (.aload_n 1, 1) := by decide +kernel
theorem dL_law_549 : decode cL_law 549 = .ok (.invokevirtual 71, 3) := by decide +kernel
theorem dL_law_552 : decode cL_law 552 = .ok (.iconst 1, 1) := by decide +kernel
theorem dL_law_553 : decode cL_law 553 = .ok (.if_icmp .le 5, 3) := by decide +kernel
theorem dL_law_556 : decode cL_law 556 = .ok (.iconst 0, 1) := by decide +kernel
theorem dL_law_557 : decode cL_law 557 = .ok (.ireturn, 1) := by decide +kernel
theorem dL_law_558 : decode cL_law 558 = .ok (.iload 14, 2) := by decide +kernel
theorem dL_law_560 : decode cL_law 560 = .ok (.ifCond .le 77, 3) := by decide +kernel
theorem dL_law_563 : decode cL_law 563 = .ok (.iload 5, 2) := by decide +kernel
theorem dL_law_565 : decode cL_law 565 = .ok (.bipush 6, 2) := by decide +kernel
theorem dL_law_567 : decode cL_law 567 = .ok (.ishr, 1) := by decide +kernel
theorem dL_law_568 : decode cL_law 568 = .ok (.iconst 3, 1) := by decide +kernel
theorem dL_law_569 : decode cL_law 569 = .ok (.invokestatic 9, 3) := by decide +kernel
theorem dL_law_572 : decode cL_law 572 = .ok (.ifCond .ne 65, 3) := by decide +kernel
theorem dL_law_575 : decode cL_law 575 = .ok (.aload_n 1, 1) := by decide +kernel
theorem dL_law_576 : decode cL_law 576 = .ok (.invokevirtual 152, 3) := by decide +kernel
theorem dL_law_579 : decode cL_law 579 = .ok (.istore 16, 2) := by decide +kernel
theorem dL_law_581 : decode cL_law 581 = .ok (.aload_n 1, 1) := by decide +kernel
theorem dL_law_582 : decode cL_law 582 = .ok (.iload 14, 2) := by decide +kernel
theorem dL_law_584 : decode cL_law 584 = .ok (.invokevirtual 155, 3) := by decide +kernel
theorem dL_law_587 : decode cL_law 587 = .ok (.iload 14, 2) := by decide +kernel
theorem dL_law_589 : decode cL_law 589 = .ok (.if_icmp .ne 10, 3) := by decide +kernel
theorem dL_law_592 : decode cL_law 592 = .ok (.aload_n 1, 1) := by decide +kernel
theorem dL_law_593 : decode cL_law 593 = .ok (.invokevirtual 152, 3) := by decide +kernel
theorem dL_law_596 : decode cL_law 596 = .ok (.ifCond .eq 5, 3) := by decide +kernel
theorem dL_law_599 : decode cL_law 599 = .ok (.iconst 0, 1) := by decide +kernel
theorem dL_law_600 : decode cL_law 600 = .ok (.ireturn, 1) := by decide +kernel
theorem dL_law_601 : decode cL_law 601 = .ok (.aload_n 1, 1) := by decide +kernel
theorem dL_law_602 : decode cL_law 602 = .ok (.iload 7, 2) := by decide +kernel
theorem dL_law_604 : decode cL_law 604 = .ok (.invokevirtual 133, 3) := by decide +kernel
theorem dL_law_607 : decode cL_law 607 = .ok (.istore 17, 2) := by decide +kernel
theorem dL_law_609 : decode cL_law 609 = .ok (.iload 17, 2) := by decide +kernel
theorem dL_law_611 : decode cL_law 611 = .ok (.iload 13, 2) := by decide +kernel
theorem dL_law_613 : decode cL_law 613 = .ok (.if_icmp .ne 22, 3) := by decide +kernel
theorem dL_law_616 : decode cL_law 616 = .ok (.aload_n 1, 1) := by decide +kernel
theorem dL_law_617 : decode cL_law 617 = .ok (.invokevirtual 152, 3) := by decide +kernel
theorem dL_law_620 : decode cL_law 620 = .ok (.iload 16, 2) := by decide +kernel
theorem dL_law_622 : decode cL_law 622 = .ok (.if_icmp .ne 13, 3) := by decide +kernel
theorem dL_law_625 : decode cL_law 625 = .ok (.aload_n 1, 1) := by decide +kernel
theorem dL_law_626 : decode cL_law 626 = .ok (.aload_n 2, 1) := by decide +kernel
theorem dL_law_627 : decode cL_law 627 = .ok (.iload 5, 2) := by decide +kernel
theorem dL_law_629 : decode cL_law 629 = .ok (.invokestatic 139, 3) := by decide +kernel
theorem dL_law_632 : decode cL_law 632 = .ok (.ifCond .ne 5, 3) := by decide +kernel
theorem dL_law_635 : decode cL_law 635 = .ok (.iconst 0, 1) := by decide +kernel
theorem dL_law_636 : decode cL_law 636 = .ok (.ireturn, 1) := by decide +kernel
theorem dL_law_637 : decode cL_law 637 = .ok (.iinc 4 1, 3) := by decide +kernel
theorem dL_law_640 : decode cL_law 640 = .ok (.goto (-387), 3) := by decide +kernel
theorem dL_law_643 : decode cL_law 643 = .ok (.iconst 1, 1) := by decide +kernel
theorem dL_law_644 : decode cL_law 644 = .ok (.ireturn, 1) := by decide +kernel
