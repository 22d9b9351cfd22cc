theorem dX12_forget_0 : decode cX12_forget 0 = .ok (.aload_n 0, 1) := by decide +kernel
theorem dX12_forget_1 : decode cX12_forget 1 = .ok (.iconst 0, 1) := by decide +kernel
theorem dX12_forget_2 : decode cX12_forget 2 = .ok (.putfield 272, 3) := by decide +kernel
theorem dX12_forget_5 : decode cX12_forget 5 = .ok (.return_, 1) := by decide +kernel
theorem dX12_start_0 : decode cX12_start 0 = .ok (.bipush 17, 2) := by decide +kernel
theorem dX12_start_2 : decode cX12_start 2 = .ok (.newarray .int, 2) := by decide +kernel
theorem dX12_start_4 : decode cX12_start 4 = .ok (.dup, 1) := by decide +kernel
theorem dX12_start_5 : decode cX12_start 5 = .ok (.iconst 0, 1) := by decide +kernel
theorem dX12_start_6 : decode cX12_start 6 = .ok (.iconst 0, 1) := by decide +kernel
theorem dX12_start_7 : decode cX12_start 7 = .ok (.iastore, 1) := by decide +kernel
theorem dX12_start_8 : decode cX12_start 8 = .ok (.dup, 1) := by decide +kernel
theorem dX12_start_9 : decode cX12_start 9 = .ok (.iconst 1, 1) := by decide +kernel
theorem dX12_start_10 : decode cX12_start 10 = .ok (.iconst 1, 1) := by decide +kernel
theorem dX12_start_11 : decode cX12_start 11 = .ok (.iastore, 1) := by decide +kernel
theorem dX12_start_12 : decode cX12_start 12 = .ok (.dup, 1) := by decide +kernel
theorem dX12_start_13 : decode cX12_start 13 = .ok (.iconst 2, 1) := by decide +kernel
theorem dX12_start_14 : decode cX12_start 14 = .ok (.iconst 5, 1) := by decide +kernel
theorem dX12_start_15 : decode cX12_start 15 = .ok (.iastore, 1) := by decide +kernel
theorem dX12_start_16 : decode cX12_start 16 = .ok (.dup, 1) := by decide +kernel
theorem dX12_start_17 : decode cX12_start 17 = .ok (.iconst 3, 1) := by decide +kernel
theorem dX12_start_18 : decode cX12_start 18 = .ok (.bipush 6, 2) := by decide +kernel
theorem dX12_start_20 : decode cX12_start 20 = .ok (.iastore, 1) := by decide +kernel
theorem dX12_start_21 : decode cX12_start 21 = .ok (.dup, 1) := by decide +kernel
theorem dX12_start_22 : decode cX12_start 22 = .ok (.iconst 4, 1) := by decide +kernel
theorem dX12_start_23 : decode cX12_start 23 = .ok (.bipush 7, 2) := by decide +kernel
theorem dX12_start_25 : decode cX12_start 25 = .ok (.iastore, 1) := by decide +kernel
theorem dX12_start_26 : decode cX12_start 26 = .ok (.dup, 1) := by decide +kernel
theorem dX12_start_27 : decode cX12_start 27 = .ok (.iconst 5, 1) := by decide +kernel
theorem dX12_start_28 : decode cX12_start 28 = .ok (.bipush 8, 2) := by decide +kernel
theorem dX12_start_30 : decode cX12_start 30 = .ok (.iastore, 1) := by decide +kernel
theorem dX12_start_31 : decode cX12_start 31 = .ok (.dup, 1) := by decide +kernel
theorem dX12_start_32 : decode cX12_start 32 = .ok (.bipush 6, 2) := by decide +kernel
theorem dX12_start_34 : decode cX12_start 34 = .ok (.bipush 9, 2) := by decide +kernel
theorem dX12_start_36 : decode cX12_start 36 = .ok (.iastore, 1) := by decide +kernel
theorem dX12_start_37 : decode cX12_start 37 = .ok (.dup, 1) := by decide +kernel
theorem dX12_start_38 : decode cX12_start 38 = .ok (.bipush 7, 2) := by decide +kernel
theorem dX12_start_40 : decode cX12_start 40 = .ok (.bipush 10, 2) := by decide +kernel
theorem dX12_start_42 : decode cX12_start 42 = .ok (.iastore, 1) := by decide +kernel
theorem dX12_start_43 : decode cX12_start 43 = .ok (.dup, 1) := by decide +kernel
theorem dX12_start_44 : decode cX12_start 44 = .ok (.bipush 8, 2) := by decide +kernel
theorem dX12_start_46 : decode cX12_start 46 = .ok (.bipush 11, 2) := by decide +kernel
theorem dX12_start_48 : decode cX12_start 48 = .ok (.iastore, 1) := by decide +kernel
theorem dX12_start_49 : decode cX12_start 49 = .ok (.dup, 1) := by decide +kernel
theorem dX12_start_50 : decode cX12_start 50 = .ok (.bipush 9, 2) := by decide +kernel
theorem dX12_start_52 : decode cX12_start 52 = .ok (.bipush 12, 2) := by decide +kernel
theorem dX12_start_54 : decode cX12_start 54 = .ok (.iastore, 1) := by decide +kernel
theorem dX12_start_55 : decode cX12_start 55 = .ok (.dup, 1) := by decide +kernel
theorem dX12_start_56 : decode cX12_start 56 = .ok (.bipush 10, 2) := by decide +kernel
theorem dX12_start_58 : decode cX12_start 58 = .ok (.bipush 13, 2) := by decide +kernel
theorem dX12_start_60 : decode cX12_start 60 = .ok (.iastore, 1) := by decide +kernel
theorem dX12_start_61 : decode cX12_start 61 = .ok (.dup, 1) := by decide +kernel
theorem dX12_start_62 : decode cX12_start 62 = .ok (.bipush 11, 2) := by decide +kernel
theorem dX12_start_64 : decode cX12_start 64 = .ok (.bipush 14, 2) := by decide +kernel
theorem dX12_start_66 : decode cX12_start 66 = .ok (.iastore, 1) := by decide +kernel
theorem dX12_start_67 : decode cX12_start 67 = .ok (.dup, 1) := by decide +kernel
theorem dX12_start_68 : decode cX12_start 68 = .ok (.bipush 12, 2) := by decide +kernel
theorem dX12_start_70 : decode cX12_start 70 = .ok (.bipush 16, 2) := by decide +kernel
theorem dX12_start_72 : decode cX12_start 72 = .ok (.iastore, 1) := by decide +kernel
theorem dX12_start_73 : decode cX12_start 73 = .ok (.dup, 1) := by decide +kernel
theorem dX12_start_74 : decode cX12_start 74 = .ok (.bipush 13, 2) := by decide +kernel
theorem dX12_start_76 : decode cX12_start 76 = .ok (.bipush 17, 2) := by decide +kernel
theorem dX12_start_78 : decode cX12_start 78 = .ok (.iastore, 1) := by decide +kernel
theorem dX12_start_79 : decode cX12_start 79 = .ok (.dup, 1) := by decide +kernel
theorem dX12_start_80 : decode cX12_start 80 = .ok (.bipush 14, 2) := by decide +kernel
theorem dX12_start_82 : decode cX12_start 82 = .ok (.bipush 18, 2) := by decide +kernel
theorem dX12_start_84 : decode cX12_start 84 = .ok (.iastore, 1) := by decide +kernel
theorem dX12_start_85 : decode cX12_start 85 = .ok (.dup, 1) := by decide +kernel
theorem dX12_start_86 : decode cX12_start 86 = .ok (.bipush 15, 2) := by decide +kernel
theorem dX12_start_88 : decode cX12_start 88 = .ok (.bipush 19, 2) := by decide +kernel
theorem dX12_start_90 : decode cX12_start 90 = .ok (.iastore, 1) := by decide +kernel
theorem dX12_start_91 : decode cX12_start 91 = .ok (.dup, 1) := by decide +kernel
theorem dX12_start_92 : decode cX12_start 92 = .ok (.bipush 16, 2) := by decide +kernel
theorem dX12_start_94 : decode cX12_start 94 = .ok (.bipush 20, 2) := by decide +kernel
theorem dX12_start_96 : decode cX12_start 96 = .ok (.iastore, 1) := by decide +kernel
theorem dX12_start_97 : decode cX12_start 97 = .ok (.astore_n 1, 1) := by decide +kernel
theorem dX12_start_98 : decode cX12_start 98 = .ok (.aload_n 1, 1) := by decide +kernel
theorem dX12_start_99 : decode cX12_start 99 = .ok (.astore_n 2, 1) := by decide +kernel
theorem dX12_start_100 : decode cX12_start 100 = .ok (.aload_n 2, 1) := by decide +kernel
theorem dX12_start_101 : decode cX12_start 101 = .ok (.arraylength, 1) := by decide +kernel
theorem dX12_start_102 : decode cX12_start 102 = .ok (.istore_n 3, 1) := by decide +kernel
theorem dX12_start_103 : decode cX12_start 103 = .ok (.iconst 0, 1) := by decide +kernel
theorem dX12_start_104 : decode cX12_start 104 = .ok (.istore 4, 2) := by decide +kernel
theorem dX12_start_106 : decode cX12_start 106 = .ok (.iload 4, 2) := by decide +kernel
theorem dX12_start_108 : decode cX12_start 108 = .ok (.iload_n 3, 1) := by decide +kernel
theorem dX12_start_109 : decode cX12_start 109 = .ok (.if_icmp .ge 23, 3) := by decide +kernel
theorem dX12_start_112 : decode cX12_start 112 = .ok (.aload_n 2, 1) := by decide +kernel
theorem dX12_start_113 : decode cX12_start 113 = .ok (.iload 4, 2) := by decide +kernel
theorem dX12_start_115 : decode cX12_start 115 = .ok (.iaload, 1) := by decide +kernel
theorem dX12_start_116 : decode cX12_start 116 = .ok (.istore 5, 2) := by decide +kernel
theorem dX12_start_118 : decode cX12_start 118 = .ok (.aload_n 0, 1) := by decide +kernel
theorem dX12_start_119 : decode cX12_start 119 = .ok (.getfield 9, 3) := by decide +kernel
theorem dX12_start_122 : decode cX12_start 122 = .ok (.iload 5, 2) := by decide +kernel
theorem dX12_start_124 : decode cX12_start 124 = .ok (.iconst 0, 1) := by decide +kernel
theorem dX12_start_125 : decode cX12_start 125 = .ok (.iastore, 1) := by decide +kernel
theorem dX12_start_126 : decode cX12_start 126 = .ok (.iinc 4 1, 3) := by decide +kernel
theorem dX12_start_129 : decode cX12_start 129 = .ok (.goto (-23), 3) := by decide +kernel
theorem dX12_start_132 : decode cX12_start 132 = .ok (.iconst 0, 1) := by decide +kernel
theorem dX12_start_133 : decode cX12_start 133 = .ok (.istore_n 2, 1) := by decide +kernel
theorem dX12_start_134 : decode cX12_start 134 = .ok (.iload_n 2, 1) := by decide +kernel
theorem dX12_start_135 : decode cX12_start 135 = .ok (.sipush 4096, 3) := by decide +kernel
theorem dX12_start_138 : decode cX12_start 138 = .ok (.if_icmp .ge 20, 3) := by decide +kernel
theorem dX12_start_141 : decode cX12_start 141 = .ok (.aload_n 0, 1) := by decide +kernel
theorem dX12_start_142 : decode cX12_start 142 = .ok (.getfield 9, 3) := by decide +kernel
theorem dX12_start_145 : decode cX12_start 145 = .ok (.sipush 12109, 3) := by decide +kernel
theorem dX12_start_148 : decode cX12_start 148 = .ok (.iload_n 2, 1) := by decide +kernel
theorem dX12_start_149 : decode cX12_start 149 = .ok (.iadd, 1) := by decide +kernel
theorem dX12_start_150 : decode cX12_start 150 = .ok (.iconst 0, 1) := by decide +kernel
theorem dX12_start_151 : decode cX12_start 151 = .ok (.iastore, 1) := by decide +kernel
theorem dX12_start_152 : decode cX12_start 152 = .ok (.iinc 2 1, 3) := by decide +kernel
theorem dX12_start_155 : decode cX12_start 155 = .ok (.goto (-21), 3) := by decide +kernel
theorem dX12_start_158 : decode cX12_start 158 = .ok (.aload_n 0, 1) := by decide +kernel
theorem dX12_start_159 : decode cX12_start 159 = .ok (.getfield 9, 3) := by decide +kernel
theorem dX12_start_162 : decode cX12_start 162 = .ok (.iconst 2, 1) := by decide +kernel
theorem dX12_start_163 : decode cX12_start 163 = .ok (.sipush 255, 3) := by decide +kernel
theorem dX12_start_166 : decode cX12_start 166 = .ok (.iastore, 1) := by decide +kernel
theorem dX12_start_167 : decode cX12_start 167 = .ok (.aload_n 0, 1) := by decide +kernel
theorem dX12_start_168 : decode cX12_start 168 = .ok (.getfield 9, 3) := by decide +kernel
theorem dX12_start_171 : decode cX12_start 171 = .ok (.iconst 3, 1) := by decide +kernel
theorem dX12_start_172 : decode cX12_start 172 = .ok (.iconst 4, 1) := by decide +kernel
theorem dX12_start_173 : decode cX12_start 173 = .ok (.iastore, 1) := by decide +kernel
theorem dX12_start_174 : decode cX12_start 174 = .ok (.aload_n 0, 1) := by decide +kernel
theorem dX12_start_175 : decode cX12_start 175 = .ok (.getfield 9, 3) := by decide +kernel
theorem dX12_start_178 : decode cX12_start 178 = .ok (.bipush 15, 2) := by decide +kernel
theorem dX12_start_180 : decode cX12_start 180 = .ok (.iconst 1, 1) := by decide +kernel
theorem dX12_start_181 : decode cX12_start 181 = .ok (.iastore, 1) := by decide +kernel
theorem dX12_start_182 : decode cX12_start 182 = .ok (.aload_n 0, 1) := by decide +kernel
theorem dX12_start_183 : decode cX12_start 183 = .ok (.getfield 9, 3) := by decide +kernel
theorem dX12_start_186 : decode cX12_start 186 = .ok (.iconst 4, 1) := by decide +kernel
theorem dX12_start_187 : decode cX12_start 187 = .ok (.aload_n 0, 1) := by decide +kernel
theorem dX12_start_188 : decode cX12_start 188 = .ok (.iconst 0, 1) := by decide +kernel
theorem dX12_start_189 : decode cX12_start 189 = .ok (.invokevirtual 275, 3) := by decide +kernel
theorem dX12_start_192 : decode cX12_start 192 = .ok (.iastore, 1) := by decide +kernel
theorem dX12_start_193 : decode cX12_start 193 = .ok (.aload_n 0, 1) := by decide +kernel
theorem dX12_start_194 : decode cX12_start 194 = .ok (.iconst 0, 1) := by decide +kernel
theorem dX12_start_195 : decode cX12_start 195 = .ok (.putfield 278, 3) := by decide +kernel
theorem dX12_start_198 : decode cX12_start 198 = .ok (.aload_n 0, 1) := by decide +kernel
theorem dX12_start_199 : decode cX12_start 199 = .ok (.invokevirtual 281, 3) := by decide +kernel
theorem dX12_start_202 : decode cX12_start 202 = .ok (.return_, 1) := by decide +kernel
