theorem dX0_init_0 : decode cX0_init 0 = .ok (.aload_n 0, 1) := by decide +kernel
theorem dX0_init_1 : decode cX0_init 1 = .ok (.invokespecial 3, 3) := by decide +kernel
theorem dX0_init_4 : decode cX0_init 4 = .ok (.aload_n 0, 1) := by decide +kernel
theorem dX0_init_5 : decode cX0_init 5 = .ok (.new 9, 3) := by decide +kernel
theorem dX0_init_8 : decode cX0_init 8 = .ok (.dup, 1) := by decide +kernel
theorem dX0_init_9 : decode cX0_init 9 = .ok (.invokespecial 11, 3) := by decide +kernel
theorem dX0_init_12 : decode cX0_init 12 = .ok (.putfield 12, 3) := by decide +kernel
theorem dX0_init_15 : decode cX0_init 15 = .ok (.aload_n 0, 1) := by decide +kernel
theorem dX0_init_16 : decode cX0_init 16 = .ok (.new 9, 3) := by decide +kernel
theorem dX0_init_19 : decode cX0_init 19 = .ok (.dup, 1) := by decide +kernel
theorem dX0_init_20 : decode cX0_init 20 = .ok (.invokespecial 11, 3) := by decide +kernel
theorem dX0_init_23 : decode cX0_init 23 = .ok (.putfield 18, 3) := by decide +kernel
theorem dX0_init_26 : decode cX0_init 26 = .ok (.aload_n 0, 1) := by decide +kernel
theorem dX0_init_27 : decode cX0_init 27 = .ok (.iconst (-1), 1) := by decide +kernel
theorem dX0_init_28 : decode cX0_init 28 = .ok (.putfield 21, 3) := by decide +kernel
theorem dX0_init_31 : decode cX0_init 31 = .ok (.aload_n 0, 1) := by decide +kernel
theorem dX0_init_32 : decode cX0_init 32 = .ok (.iconst (-1), 1) := by decide +kernel
theorem dX0_init_33 : decode cX0_init 33 = .ok (.putfield 25, 3) := by decide +kernel
theorem dX0_init_36 : decode cX0_init 36 = .ok (.return_, 1) := by decide +kernel
theorem dX0_forget_0 : decode cX0_forget 0 = .ok (.aload_n 0, 1) := by decide +kernel
theorem dX0_forget_1 : decode cX0_forget 1 = .ok (.iconst (-1), 1) := by decide +kernel
theorem dX0_forget_2 : decode cX0_forget 2 = .ok (.putfield 21, 3) := by decide +kernel
theorem dX0_forget_5 : decode cX0_forget 5 = .ok (.aload_n 0, 1) := by decide +kernel
theorem dX0_forget_6 : decode cX0_forget 6 = .ok (.iconst (-1), 1) := by decide +kernel
theorem dX0_forget_7 : decode cX0_forget 7 = .ok (.putfield 25, 3) := by decide +kernel
theorem dX0_forget_10 : decode cX0_forget 10 = .ok (.aload_n 0, 1) := by decide +kernel
theorem dX0_forget_11 : decode cX0_forget 11 = .ok (.iconst 0, 1) := by decide +kernel
theorem dX0_forget_12 : decode cX0_forget 12 = .ok (.putfield 28, 3) := by decide +kernel
theorem dX0_forget_15 : decode cX0_forget 15 = .ok (.aload_n 0, 1) := by decide +kernel
theorem dX0_forget_16 : decode cX0_forget 16 = .ok (.iconst 0, 1) := by decide +kernel
theorem dX0_forget_17 : decode cX0_forget 17 = .ok (.putfield 31, 3) := by decide +kernel
theorem dX0_forget_20 : decode cX0_forget 20 = .ok (.return_, 1) := by decide +kernel
theorem dX0_keepUp_0 : decode cX0_keepUp 0 = .ok (.aload_n 0, 1) := by decide +kernel
theorem dX0_keepUp_1 : decode cX0_keepUp 1 = .ok (.getfield 21, 3) := by decide +kernel
theorem dX0_keepUp_4 : decode cX0_keepUp 4 = .ok (.ifCond .ge 22, 3) := by decide +kernel
theorem dX0_keepUp_7 : decode cX0_keepUp 7 = .ok (.aload_n 0, 1) := by decide +kernel
theorem dX0_keepUp_8 : decode cX0_keepUp 8 = .ok (.getfield 12, 3) := by decide +kernel
theorem dX0_keepUp_11 : decode cX0_keepUp 11 = .ok (.aload_n 1, 1) := by decide +kernel
theorem dX0_keepUp_12 : decode cX0_keepUp 12 = .ok (.invokevirtual 34, 3) := by decide +kernel
theorem dX0_keepUp_15 : decode cX0_keepUp 15 = .ok (.aload_n 0, 1) := by decide +kernel
theorem dX0_keepUp_16 : decode cX0_keepUp 16 = .ok (.aload_n 0, 1) := by decide +kernel
theorem dX0_keepUp_17 : decode cX0_keepUp 17 = .ok (.getfield 28, 3) := by decide +kernel
theorem dX0_keepUp_20 : decode cX0_keepUp 20 = .ok (.putfield 21, 3) := by decide +kernel
theorem dX0_keepUp_23 : decode cX0_keepUp 23 = .ok (.goto 108, 3) := by decide +kernel
theorem dX0_keepUp_26 : decode cX0_keepUp 26 = .ok (.aload_n 0, 1) := by decide +kernel
theorem dX0_keepUp_27 : decode cX0_keepUp 27 = .ok (.getfield 25, 3) := by decide +kernel
theorem dX0_keepUp_30 : decode cX0_keepUp 30 = .ok (.ifCond .ge 37, 3) := by decide +kernel
theorem dX0_keepUp_33 : decode cX0_keepUp 33 = .ok (.aload_n 0, 1) := by decide +kernel
theorem dX0_keepUp_34 : decode cX0_keepUp 34 = .ok (.getfield 28, 3) := by decide +kernel
theorem dX0_keepUp_37 : decode cX0_keepUp 37 = .ok (.aload_n 0, 1) := by decide +kernel
theorem dX0_keepUp_38 : decode cX0_keepUp 38 = .ok (.getfield 21, 3) := by decide +kernel
theorem dX0_keepUp_41 : decode cX0_keepUp 41 = .ok (.isub, 1) := by decide +kernel
theorem dX0_keepUp_42 : decode cX0_keepUp 42 = .ok (.sipush 200, 3) := by decide +kernel
theorem dX0_keepUp_45 : decode cX0_keepUp 45 = .ok (.if_icmp .lt 22, 3) := by decide +kernel
theorem dX0_keepUp_48 : decode cX0_keepUp 48 = .ok (.aload_n 0, 1) := by decide +kernel
theorem dX0_keepUp_49 : decode cX0_keepUp 49 = .ok (.getfield 18, 3) := by decide +kernel
theorem dX0_keepUp_52 : decode cX0_keepUp 52 = .ok (.aload_n 1, 1) := by decide +kernel
theorem dX0_keepUp_53 : decode cX0_keepUp 53 = .ok (.invokevirtual 34, 3) := by decide +kernel
theorem dX0_keepUp_56 : decode cX0_keepUp 56 = .ok (.aload_n 0, 1) := by decide +kernel
theorem dX0_keepUp_57 : decode cX0_keepUp 57 = .ok (.aload_n 0, 1) := by decide +kernel
theorem dX0_keepUp_58 : decode cX0_keepUp 58 = .ok (.getfield 28, 3) := by decide +kernel
theorem dX0_keepUp_61 : decode cX0_keepUp 61 = .ok (.putfield 25, 3) := by decide +kernel
theorem dX0_keepUp_64 : decode cX0_keepUp 64 = .ok (.goto 67, 3) := by decide +kernel
theorem dX0_keepUp_67 : decode cX0_keepUp 67 = .ok (.aload_n 0, 1) := by decide +kernel
theorem dX0_keepUp_68 : decode cX0_keepUp 68 = .ok (.getfield 25, 3) := by decide +kernel
theorem dX0_keepUp_71 : decode cX0_keepUp 71 = .ok (.ifCond .lt 60, 3) := by decide +kernel
theorem dX0_keepUp_74 : decode cX0_keepUp 74 = .ok (.aload_n 0, 1) := by decide +kernel
theorem dX0_keepUp_75 : decode cX0_keepUp 75 = .ok (.getfield 28, 3) := by decide +kernel
theorem dX0_keepUp_78 : decode cX0_keepUp 78 = .ok (.aload_n 0, 1) := by decide +kernel
theorem dX0_keepUp_79 : decode cX0_keepUp 79 = .ok (.getfield 25, 3) := by decide +kernel
theorem dX0_keepUp_82 : decode cX0_keepUp 82 = .ok (.isub, 1) := by decide +kernel
theorem dX0_keepUp_83 : decode cX0_keepUp 83 = .ok (.sipush 200, 3) := by decide +kernel
theorem dX0_keepUp_86 : decode cX0_keepUp 86 = .ok (.if_icmp .lt 45, 3) := by decide +kernel
theorem dX0_keepUp_89 : decode cX0_keepUp 89 = .ok (.aload_n 0, 1) := by decide +kernel
theorem dX0_keepUp_90 : decode cX0_keepUp 90 = .ok (.getfield 12, 3) := by decide +kernel
theorem dX0_keepUp_93 : decode cX0_keepUp 93 = .ok (.astore_n 2, 1) := by decide +kernel
theorem dX0_keepUp_94 : decode cX0_keepUp 94 = .ok (.aload_n 0, 1) := by decide +kernel
theorem dX0_keepUp_95 : decode cX0_keepUp 95 = .ok (.aload_n 0, 1) := by decide +kernel
theorem dX0_keepUp_96 : decode cX0_keepUp 96 = .ok (.getfield 18, 3) := by decide +kernel
theorem dX0_keepUp_99 : decode cX0_keepUp 99 = .ok (.putfield 12, 3) := by decide +kernel
theorem dX0_keepUp_102 : decode cX0_keepUp 102 = .ok (.aload_n 0, 1) := by decide +kernel
theorem dX0_keepUp_103 : decode cX0_keepUp 103 = .ok (.aload_n 0, 1) := by decide +kernel
theorem dX0_keepUp_104 : decode cX0_keepUp 104 = .ok (.getfield 25, 3) := by decide +kernel
theorem dX0_keepUp_107 : decode cX0_keepUp 107 = .ok (.putfield 21, 3) := by decide +kernel
theorem dX0_keepUp_110 : decode cX0_keepUp 110 = .ok (.aload_n 0, 1) := by decide +kernel
theorem dX0_keepUp_111 : decode cX0_keepUp 111 = .ok (.aload_n 2, 1) := by decide +kernel
theorem dX0_keepUp_112 : decode cX0_keepUp 112 = .ok (.putfield 18, 3) := by decide +kernel
theorem dX0_keepUp_115 : decode cX0_keepUp 115 = .ok (.aload_n 0, 1) := by decide +kernel
theorem dX0_keepUp_116 : decode cX0_keepUp 116 = .ok (.getfield 18, 3) := by decide +kernel
theorem dX0_keepUp_119 : decode cX0_keepUp 119 = .ok (.aload_n 1, 1) := by decide +kernel
theorem dX0_keepUp_120 : decode cX0_keepUp 120 = .ok (.invokevirtual 34, 3) := by decide +kernel
theorem dX0_keepUp_123 : decode cX0_keepUp 123 = .ok (.aload_n 0, 1) := by decide +kernel
theorem dX0_keepUp_124 : decode cX0_keepUp 124 = .ok (.aload_n 0, 1) := by decide +kernel
theorem dX0_keepUp_125 : decode cX0_keepUp 125 = .ok (.getfield 28, 3) := by decide +kernel
theorem dX0_keepUp_128 : decode cX0_keepUp 128 = .ok (.putfield 25, 3) := by decide +kernel
theorem dX0_keepUp_131 : decode cX0_keepUp 131 = .ok (.aload_n 0, 1) := by decide +kernel
theorem dX0_keepUp_132 : decode cX0_keepUp 132 = .ok (.dup, 1) := by decide +kernel
theorem dX0_keepUp_133 : decode cX0_keepUp 133 = .ok (.getfield 28, 3) := by decide +kernel
theorem dX0_keepUp_136 : decode cX0_keepUp 136 = .ok (.iconst 1, 1) := by decide +kernel
theorem dX0_keepUp_137 : decode cX0_keepUp 137 = .ok (.iadd, 1) := by decide +kernel
theorem dX0_keepUp_138 : decode cX0_keepUp 138 = .ok (.putfield 28, 3) := by decide +kernel
theorem dX0_keepUp_141 : decode cX0_keepUp 141 = .ok (.aload_n 0, 1) := by decide +kernel
theorem dX0_keepUp_142 : decode cX0_keepUp 142 = .ok (.getfield 31, 3) := by decide +kernel
theorem dX0_keepUp_145 : decode cX0_keepUp 145 = .ok (.sipush 200, 3) := by decide +kernel
theorem dX0_keepUp_148 : decode cX0_keepUp 148 = .ok (.if_icmp .ge 13, 3) := by decide +kernel
theorem dX0_keepUp_151 : decode cX0_keepUp 151 = .ok (.aload_n 0, 1) := by decide +kernel
theorem dX0_keepUp_152 : decode cX0_keepUp 152 = .ok (.dup, 1) := by decide +kernel
theorem dX0_keepUp_153 : decode cX0_keepUp 153 = .ok (.getfield 31, 3) := by decide +kernel
theorem dX0_keepUp_156 : decode cX0_keepUp 156 = .ok (.iconst 1, 1) := by decide +kernel
theorem dX0_keepUp_157 : decode cX0_keepUp 157 = .ok (.iadd, 1) := by decide +kernel
theorem dX0_keepUp_158 : decode cX0_keepUp 158 = .ok (.putfield 31, 3) := by decide +kernel
theorem dX0_keepUp_161 : decode cX0_keepUp 161 = .ok (.return_, 1) := by decide +kernel
theorem dX0_rewind_0 : decode cX0_rewind 0 = .ok (.iload_n 2, 1) := by decide +kernel
theorem dX0_rewind_1 : decode cX0_rewind 1 = .ok (.aload_n 0, 1) := by decide +kernel
theorem dX0_rewind_2 : decode cX0_rewind 2 = .ok (.getfield 31, 3) := by decide +kernel
theorem dX0_rewind_5 : decode cX0_rewind 5 = .ok (.if_icmp .ge 7, 3) := by decide +kernel
theorem dX0_rewind_8 : decode cX0_rewind 8 = .ok (.iload_n 2, 1) := by decide +kernel
theorem dX0_rewind_9 : decode cX0_rewind 9 = .ok (.goto 7, 3) := by decide +kernel
theorem dX0_rewind_12 : decode cX0_rewind 12 = .ok (.aload_n 0, 1) := by decide +kernel
theorem dX0_rewind_13 : decode cX0_rewind 13 = .ok (.getfield 31, 3) := by decide +kernel
theorem dX0_rewind_16 : decode cX0_rewind 16 = .ok (.istore_n 3, 1) := by decide +kernel
theorem dX0_rewind_17 : decode cX0_rewind 17 = .ok (.iload_n 3, 1) := by decide +kernel
theorem dX0_rewind_18 : decode cX0_rewind 18 = .ok (.ifCond .ne 5, 3) := by decide +kernel
theorem dX0_rewind_21 : decode cX0_rewind 21 = .ok (.iconst 0, 1) := by decide +kernel
theorem dX0_rewind_22 : decode cX0_rewind 22 = .ok (.ireturn, 1) := by decide +kernel
theorem dX0_rewind_23 : decode cX0_rewind 23 = .ok (.aload_n 0, 1) := by decide +kernel
theorem dX0_rewind_24 : decode cX0_rewind 24 = .ok (.dup, 1) := by decide +kernel
theorem dX0_rewind_25 : decode cX0_rewind 25 = .ok (.getfield 28, 3) := by decide +kernel
theorem dX0_rewind_28 : decode cX0_rewind 28 = .ok (.iload_n 3, 1) := by decide +kernel
theorem dX0_rewind_29 : decode cX0_rewind 29 = .ok (.isub, 1) := by decide +kernel
theorem dX0_rewind_30 : decode cX0_rewind 30 = .ok (.putfield 28, 3) := by decide +kernel
theorem dX0_rewind_33 : decode cX0_rewind 33 = .ok (.aload_n 0, 1) := by decide +kernel
theorem dX0_rewind_34 : decode cX0_rewind 34 = .ok (.dup, 1) := by decide +kernel
theorem dX0_rewind_35 : decode cX0_rewind 35 = .ok (.getfield 31, 3) := by decide +kernel
theorem dX0_rewind_38 : decode cX0_rewind 38 = .ok (.iload_n 3, 1) := by decide +kernel
theorem dX0_rewind_39 : decode cX0_rewind 39 = .ok (.isub, 1) := by decide +kernel
theorem dX0_rewind_40 : decode cX0_rewind 40 = .ok (.putfield 31, 3) := by decide +kernel
theorem dX0_rewind_43 : decode cX0_rewind 43 = .ok (.aload_n 0, 1) := by decide +kernel
theorem dX0_rewind_44 : decode cX0_rewind 44 = .ok (.getfield 25, 3) := by decide +kernel
theorem dX0_rewind_47 : decode cX0_rewind 47 = .ok (.aload_n 0, 1) := by decide +kernel
theorem dX0_rewind_48 : decode cX0_rewind 48 = .ok (.getfield 28, 3) := by decide +kernel
theorem dX0_rewind_51 : decode cX0_rewind 51 = .ok (.if_icmp .le 8, 3) := by decide +kernel
theorem dX0_rewind_54 : decode cX0_rewind 54 = .ok (.aload_n 0, 1) := by decide +kernel
theorem dX0_rewind_55 : decode cX0_rewind 55 = .ok (.iconst (-1), 1) := by decide +kernel
theorem dX0_rewind_56 : decode cX0_rewind 56 = .ok (.putfield 25, 3) := by decide +kernel
theorem dX0_rewind_59 : decode cX0_rewind 59 = .ok (.aload_n 1, 1) := by decide +kernel
theorem dX0_rewind_60 : decode cX0_rewind 60 = .ok (.aload_n 0, 1) := by decide +kernel
theorem dX0_rewind_61 : decode cX0_rewind 61 = .ok (.getfield 25, 3) := by decide +kernel
theorem dX0_rewind_64 : decode cX0_rewind 64 = .ok (.ifCond .lt 10, 3) := by decide +kernel
theorem dX0_rewind_67 : decode cX0_rewind 67 = .ok (.aload_n 0, 1) := by decide +kernel
theorem dX0_rewind_68 : decode cX0_rewind 68 = .ok (.getfield 18, 3) := by decide +kernel
theorem dX0_rewind_71 : decode cX0_rewind 71 = .ok (.goto 7, 3) := by decide +kernel
theorem dX0_rewind_74 : decode cX0_rewind 74 = .ok (.aload_n 0, 1) := by decide +kernel
theorem dX0_rewind_75 : decode cX0_rewind 75 = .ok (.getfield 12, 3) := by decide +kernel
theorem dX0_rewind_78 : decode cX0_rewind 78 = .ok (.invokevirtual 34, 3) := by decide +kernel
theorem dX0_rewind_81 : decode cX0_rewind 81 = .ok (.aload_n 0, 1) := by decide +kernel
theorem dX0_rewind_82 : decode cX0_rewind 82 = .ok (.getfield 28, 3) := by decide +kernel
theorem dX0_rewind_85 : decode cX0_rewind 85 = .ok (.aload_n 0, 1) := by decide +kernel
theorem dX0_rewind_86 : decode cX0_rewind 86 = .ok (.getfield 25, 3) := by decide +kernel
theorem dX0_rewind_89 : decode cX0_rewind 89 = .ok (.ifCond .lt 10, 3) := by decide +kernel
theorem dX0_rewind_92 : decode cX0_rewind 92 = .ok (.aload_n 0, 1) := by decide +kernel
theorem dX0_rewind_93 : decode cX0_rewind 93 = .ok (.getfield 25, 3) := by decide +kernel
theorem dX0_rewind_96 : decode cX0_rewind 96 = .ok (.goto 7, 3) := by decide +kernel
theorem dX0_rewind_99 : decode cX0_rewind 99 = .ok (.aload_n 0, 1) := by decide +kernel
theorem dX0_rewind_100 : decode cX0_rewind 100 = .ok (.getfield 21, 3) := by decide +kernel
theorem dX0_rewind_103 : decode cX0_rewind 103 = .ok (.isub, 1) := by decide +kernel
theorem dX0_rewind_104 : decode cX0_rewind 104 = .ok (.istore 4, 2) := by decide +kernel
theorem dX0_rewind_106 : decode cX0_rewind 106 = .ok (.iconst 0, 1) := by decide +kernel
theorem dX0_rewind_107 : decode cX0_rewind 107 = .ok (.istore 5, 2) := by decide +kernel
theorem dX0_rewind_109 : decode cX0_rewind 109 = .ok (.iload 5, 2) := by decide +kernel
theorem dX0_rewind_111 : decode cX0_rewind 111 = .ok (.iload 4, 2) := by decide +kernel
theorem dX0_rewind_113 : decode cX0_rewind 113 = .ok (.if_icmp .ge 14, 3) := by decide +kernel
theorem dX0_rewind_116 : decode cX0_rewind 116 = .ok (.aload_n 1, 1) := by decide +kernel
theorem dX0_rewind_117 : decode cX0_rewind 117 = .ok (.invokevirtual 38, 3) := by decide +kernel
theorem dX0_rewind_120 : decode cX0_rewind 120 = .ok (.pop, 1) := by decide +kernel
theorem dX0_rewind_121 : decode cX0_rewind 121 = .ok (.iinc 5 1, 3) := by decide +kernel
theorem dX0_rewind_124 : decode cX0_rewind 124 = .ok (.goto (-15), 3) := by decide +kernel
theorem dX0_rewind_127 : decode cX0_rewind 127 = .ok (.iload_n 3, 1) := by decide +kernel
theorem dX0_rewind_128 : decode cX0_rewind 128 = .ok (.ireturn, 1) := by decide +kernel
theorem dX1_init_0 : decode cX1_init 0 = .ok (.aload_n 0, 1) := by decide +kernel
theorem dX1_init_1 : decode cX1_init 1 = .ok (.invokespecial 3, 3) := by decide +kernel
theorem dX1_init_4 : decode cX1_init 4 = .ok (.return_, 1) := by decide +kernel
theorem dX1_clear_0 : decode cX1_clear 0 = .ok (.aload_n 0, 1) := by decide +kernel
theorem dX1_clear_1 : decode cX1_clear 1 = .ok (.iconst (-1), 1) := by decide +kernel
theorem dX1_clear_2 : decode cX1_clear 2 = .ok (.putfield 9, 3) := by decide +kernel
theorem dX1_clear_5 : decode cX1_clear 5 = .ok (.aload_n 0, 1) := by decide +kernel
theorem dX1_clear_6 : decode cX1_clear 6 = .ok (.iconst (-1), 1) := by decide +kernel
theorem dX1_clear_7 : decode cX1_clear 7 = .ok (.putfield 15, 3) := by decide +kernel
theorem dX1_clear_10 : decode cX1_clear 10 = .ok (.aload_n 0, 1) := by decide +kernel
theorem dX1_clear_11 : decode cX1_clear 11 = .ok (.iconst (-1), 1) := by decide +kernel
theorem dX1_clear_12 : decode cX1_clear 12 = .ok (.putfield 18, 3) := by decide +kernel
theorem dX1_clear_15 : decode cX1_clear 15 = .ok (.aload_n 0, 1) := by decide +kernel
theorem dX1_clear_16 : decode cX1_clear 16 = .ok (.iconst 0, 1) := by decide +kernel
theorem dX1_clear_17 : decode cX1_clear 17 = .ok (.putfield 21, 3) := by decide +kernel
theorem dX1_clear_20 : decode cX1_clear 20 = .ok (.aload_n 0, 1) := by decide +kernel
theorem dX1_clear_21 : decode cX1_clear 21 = .ok (.iconst 0, 1) := by decide +kernel
theorem dX1_clear_22 : decode cX1_clear 22 = .ok (.putfield 25, 3) := by decide +kernel
theorem dX1_clear_25 : decode cX1_clear 25 = .ok (.aload_n 0, 1) := by decide +kernel
theorem dX1_clear_26 : decode cX1_clear 26 = .ok (.iconst 0, 1) := by decide +kernel
theorem dX1_clear_27 : decode cX1_clear 27 = .ok (.putfield 28, 3) := by decide +kernel
theorem dX1_clear_30 : decode cX1_clear 30 = .ok (.aload_n 0, 1) := by decide +kernel
theorem dX1_clear_31 : decode cX1_clear 31 = .ok (.iconst (-1), 1) := by decide +kernel
theorem dX1_clear_32 : decode cX1_clear 32 = .ok (.putfield 31, 3) := by decide +kernel
theorem dX1_clear_35 : decode cX1_clear 35 = .ok (.aload_n 0, 1) := by decide +kernel
theorem dX1_clear_36 : decode cX1_clear 36 = .ok (.iconst 0, 1) := by decide +kernel
theorem dX1_clear_37 : decode cX1_clear 37 = .ok (.putfield 34, 3) := by decide +kernel
theorem dX1_clear_40 : decode cX1_clear 40 = .ok (.aload_n 0, 1) := by decide +kernel
theorem dX1_clear_41 : decode cX1_clear 41 = .ok (.iconst 0, 1) := by decide +kernel
theorem dX1_clear_42 : decode cX1_clear 42 = .ok (.putfield 37, 3) := by decide +kernel
theorem dX1_clear_45 : decode cX1_clear 45 = .ok (.return_, 1) := by decide +kernel
theorem dX2_init_0 : decode cX2_init 0 = .ok (.aload_n 0, 1) := by decide +kernel
theorem dX2_init_1 : decode cX2_init 1 = .ok (.invokespecial 3, 3) := by decide +kernel
theorem dX2_init_4 : decode cX2_init 4 = .ok (.aload_n 0, 1) := by decide +kernel
theorem dX2_init_5 : decode cX2_init 5 = .ok (.sipush 11008, 3) := by decide +kernel
theorem dX2_init_8 : decode cX2_init 8 = .ok (.newarray .int, 2) := by decide +kernel
theorem dX2_init_10 : decode cX2_init 10 = .ok (.putfield 9, 3) := by decide +kernel
theorem dX2_init_13 : decode cX2_init 13 = .ok (.aload_n 0, 1) := by decide +kernel
theorem dX2_init_14 : decode cX2_init 14 = .ok (.sipush 4096, 3) := by decide +kernel
theorem dX2_init_17 : decode cX2_init 17 = .ok (.newarray .int, 2) := by decide +kernel
theorem dX2_init_19 : decode cX2_init 19 = .ok (.putfield 15, 3) := by decide +kernel
theorem dX2_init_22 : decode cX2_init 22 = .ok (.aload_n 0, 1) := by decide +kernel
theorem dX2_init_23 : decode cX2_init 23 = .ok (.bipush 40, 2) := by decide +kernel
theorem dX2_init_25 : decode cX2_init 25 = .ok (.newarray .int, 2) := by decide +kernel
theorem dX2_init_27 : decode cX2_init 27 = .ok (.putfield 18, 3) := by decide +kernel
theorem dX2_init_30 : decode cX2_init 30 = .ok (.aload_n 0, 1) := by decide +kernel
theorem dX2_init_31 : decode cX2_init 31 = .ok (.bipush 8, 2) := by decide +kernel
theorem dX2_init_33 : decode cX2_init 33 = .ok (.newarray .int, 2) := by decide +kernel
theorem dX2_init_35 : decode cX2_init 35 = .ok (.putfield 21, 3) := by decide +kernel
theorem dX2_init_38 : decode cX2_init 38 = .ok (.aload_n 0, 1) := by decide +kernel
theorem dX2_init_39 : decode cX2_init 39 = .ok (.new 24, 3) := by decide +kernel
theorem dX2_init_42 : decode cX2_init 42 = .ok (.dup, 1) := by decide +kernel
theorem dX2_init_43 : decode cX2_init 43 = .ok (.invokespecial 26, 3) := by decide +kernel
theorem dX2_init_46 : decode cX2_init 46 = .ok (.putfield 27, 3) := by decide +kernel
theorem dX2_init_49 : decode cX2_init 49 = .ok (.return_, 1) := by decide +kernel
theorem dX2_restart_0 : decode cX2_restart 0 = .ok (.aload_n 0, 1) := by decide +kernel
theorem dX2_restart_1 : decode cX2_restart 1 = .ok (.getfield 15, 3) := by decide +kernel
theorem dX2_restart_4 : decode cX2_restart 4 = .ok (.iconst 0, 1) := by decide +kernel
theorem dX2_restart_5 : decode cX2_restart 5 = .ok (.invokestatic 31, 3) := by decide +kernel
theorem dX2_restart_8 : decode cX2_restart 8 = .ok (.aload_n 0, 1) := by decide +kernel
theorem dX2_restart_9 : decode cX2_restart 9 = .ok (.getfield 27, 3) := by decide +kernel
theorem dX2_restart_12 : decode cX2_restart 12 = .ok (.invokevirtual 37, 3) := by decide +kernel
theorem dX2_restart_15 : decode cX2_restart 15 = .ok (.aload_n 0, 1) := by decide +kernel
theorem dX2_restart_16 : decode cX2_restart 16 = .ok (.iconst 0, 1) := by decide +kernel
theorem dX2_restart_17 : decode cX2_restart 17 = .ok (.putfield 40, 3) := by decide +kernel
theorem dX2_restart_20 : decode cX2_restart 20 = .ok (.aload_n 0, 1) := by decide +kernel
theorem dX2_restart_21 : decode cX2_restart 21 = .ok (.iconst 0, 1) := by decide +kernel
theorem dX2_restart_22 : decode cX2_restart 22 = .ok (.putfield 44, 3) := by decide +kernel
theorem dX2_restart_25 : decode cX2_restart 25 = .ok (.aload_n 0, 1) := by decide +kernel
theorem dX2_restart_26 : decode cX2_restart 26 = .ok (.sipush 255, 3) := by decide +kernel
theorem dX2_restart_29 : decode cX2_restart 29 = .ok (.putfield 47, 3) := by decide +kernel
theorem dX2_restart_32 : decode cX2_restart 32 = .ok (.aload_n 0, 1) := by decide +kernel
theorem dX2_restart_33 : decode cX2_restart 33 = .ok (.iconst 4, 1) := by decide +kernel
theorem dX2_restart_34 : decode cX2_restart 34 = .ok (.putfield 50, 3) := by decide +kernel
theorem dX2_restart_37 : decode cX2_restart 37 = .ok (.aload_n 0, 1) := by decide +kernel
theorem dX2_restart_38 : decode cX2_restart 38 = .ok (.aload_n 0, 1) := by decide +kernel
theorem dX2_restart_39 : decode cX2_restart 39 = .ok (.iconst 0, 1) := by decide +kernel
theorem dX2_restart_40 : decode cX2_restart 40 = .ok (.invokevirtual 53, 3) := by decide +kernel
theorem dX2_restart_43 : decode cX2_restart 43 = .ok (.putfield 57, 3) := by decide +kernel
theorem dX2_restart_46 : decode cX2_restart 46 = .ok (.aload_n 0, 1) := by decide +kernel
theorem dX2_restart_47 : decode cX2_restart 47 = .ok (.iconst 0, 1) := by decide +kernel
theorem dX2_restart_48 : decode cX2_restart 48 = .ok (.putfield 60, 3) := by decide +kernel
theorem dX2_restart_51 : decode cX2_restart 51 = .ok (.aload_n 0, 1) := by decide +kernel
theorem dX2_restart_52 : decode cX2_restart 52 = .ok (.iconst 0, 1) := by decide +kernel
theorem dX2_restart_53 : decode cX2_restart 53 = .ok (.putfield 63, 3) := by decide +kernel
theorem dX2_restart_56 : decode cX2_restart 56 = .ok (.aload_n 0, 1) := by decide +kernel
theorem dX2_restart_57 : decode cX2_restart 57 = .ok (.iconst 0, 1) := by decide +kernel
theorem dX2_restart_58 : decode cX2_restart 58 = .ok (.putfield 66, 3) := by decide +kernel
theorem dX2_restart_61 : decode cX2_restart 61 = .ok (.aload_n 0, 1) := by decide +kernel
theorem dX2_restart_62 : decode cX2_restart 62 = .ok (.iconst 0, 1) := by decide +kernel
theorem dX2_restart_63 : decode cX2_restart 63 = .ok (.putfield 69, 3) := by decide +kernel
theorem dX2_restart_66 : decode cX2_restart 66 = .ok (.aload_n 0, 1) := by decide +kernel
theorem dX2_restart_67 : decode cX2_restart 67 = .ok (.iconst 0, 1) := by decide +kernel
theorem dX2_restart_68 : decode cX2_restart 68 = .ok (.putfield 72, 3) := by decide +kernel
theorem dX2_restart_71 : decode cX2_restart 71 = .ok (.aload_n 0, 1) := by decide +kernel
theorem dX2_restart_72 : decode cX2_restart 72 = .ok (.iconst 0, 1) := by decide +kernel
theorem dX2_restart_73 : decode cX2_restart 73 = .ok (.putfield 75, 3) := by decide +kernel
theorem dX2_restart_76 : decode cX2_restart 76 = .ok (.return_, 1) := by decide +kernel
theorem dX2_copyFrom_0 : decode cX2_copyFrom 0 = .ok (.aload_n 1, 1) := by decide +kernel
theorem dX2_copyFrom_1 : decode cX2_copyFrom 1 = .ok (.getfield 9, 3) := by decide +kernel
theorem dX2_copyFrom_4 : decode cX2_copyFrom 4 = .ok (.iconst 0, 1) := by decide +kernel
theorem dX2_copyFrom_5 : decode cX2_copyFrom 5 = .ok (.aload_n 0, 1) := by decide +kernel
theorem dX2_copyFrom_6 : decode cX2_copyFrom 6 = .ok (.getfield 9, 3) := by decide +kernel
theorem dX2_copyFrom_9 : decode cX2_copyFrom 9 = .ok (.iconst 0, 1) := by decide +kernel
theorem dX2_copyFrom_10 : decode cX2_copyFrom 10 = .ok (.sipush 11008, 3) := by decide +kernel
theorem dX2_copyFrom_13 : decode cX2_copyFrom 13 = .ok (.invokestatic 79, 3) := by decide +kernel
theorem dX2_copyFrom_16 : decode cX2_copyFrom 16 = .ok (.aload_n 1, 1) := by decide +kernel
theorem dX2_copyFrom_17 : decode cX2_copyFrom 17 = .ok (.getfield 15, 3) := by decide +kernel
theorem dX2_copyFrom_20 : decode cX2_copyFrom 20 = .ok (.iconst 0, 1) := by decide +kernel
theorem dX2_copyFrom_21 : decode cX2_copyFrom 21 = .ok (.aload_n 0, 1) := by decide +kernel
theorem dX2_copyFrom_22 : decode cX2_copyFrom 22 = .ok (.getfield 15, 3) := by decide +kernel
theorem dX2_copyFrom_25 : decode cX2_copyFrom 25 = .ok (.iconst 0, 1) := by decide +kernel
theorem dX2_copyFrom_26 : decode cX2_copyFrom 26 = .ok (.sipush 4096, 3) := by decide +kernel
theorem dX2_copyFrom_29 : decode cX2_copyFrom 29 = .ok (.invokestatic 79, 3) := by decide +kernel
theorem dX2_copyFrom_32 : decode cX2_copyFrom 32 = .ok (.aload_n 1, 1) := by decide +kernel
theorem dX2_copyFrom_33 : decode cX2_copyFrom 33 = .ok (.getfield 18, 3) := by decide +kernel
theorem dX2_copyFrom_36 : decode cX2_copyFrom 36 = .ok (.iconst 0, 1) := by decide +kernel
theorem dX2_copyFrom_37 : decode cX2_copyFrom 37 = .ok (.aload_n 0, 1) := by decide +kernel
theorem dX2_copyFrom_38 : decode cX2_copyFrom 38 = .ok (.getfield 18, 3) := by decide +kernel
theorem dX2_copyFrom_41 : decode cX2_copyFrom 41 = .ok (.iconst 0, 1) := by decide +kernel
theorem dX2_copyFrom_42 : decode cX2_copyFrom 42 = .ok (.bipush 40, 2) := by decide +kernel
theorem dX2_copyFrom_44 : decode cX2_copyFrom 44 = .ok (.invokestatic 79, 3) := by decide +kernel
theorem dX2_copyFrom_47 : decode cX2_copyFrom 47 = .ok (.aload_n 0, 1) := by decide +kernel
theorem dX2_copyFrom_48 : decode cX2_copyFrom 48 = .ok (.getfield 27, 3) := by decide +kernel
theorem dX2_copyFrom_51 : decode cX2_copyFrom 51 = .ok (.aload_n 1, 1) := by decide +kernel
theorem dX2_copyFrom_52 : decode cX2_copyFrom 52 = .ok (.getfield 27, 3) := by decide +kernel
theorem dX2_copyFrom_55 : decode cX2_copyFrom 55 = .ok (.invokevirtual 85, 3) := by decide +kernel
theorem dX2_copyFrom_58 : decode cX2_copyFrom 58 = .ok (.aload_n 0, 1) := by decide +kernel
theorem dX2_copyFrom_59 : decode cX2_copyFrom 59 = .ok (.aload_n 1, 1) := by decide +kernel
theorem dX2_copyFrom_60 : decode cX2_copyFrom 60 = .ok (.getfield 40, 3) := by decide +kernel
theorem dX2_copyFrom_63 : decode cX2_copyFrom 63 = .ok (.putfield 40, 3) := by decide +kernel
theorem dX2_copyFrom_66 : decode cX2_copyFrom 66 = .ok (.aload_n 0, 1) := by decide +kernel
theorem dX2_copyFrom_67 : decode cX2_copyFrom 67 = .ok (.aload_n 1, 1) := by decide +kernel
theorem dX2_copyFrom_68 : decode cX2_copyFrom 68 = .ok (.getfield 44, 3) := by decide +kernel
theorem dX2_copyFrom_71 : decode cX2_copyFrom 71 = .ok (.putfield 44, 3) := by decide +kernel
theorem dX2_copyFrom_74 : decode cX2_copyFrom 74 = .ok (.aload_n 0, 1) := by decide +kernel
theorem dX2_copyFrom_75 : decode cX2_copyFrom 75 = .ok (.aload_n 1, 1) := by decide +kernel
theorem dX2_copyFrom_76 : decode cX2_copyFrom 76 = .ok (.getfield 47, 3) := by decide +kernel
theorem dX2_copyFrom_79 : decode cX2_copyFrom 79 = .ok (.putfield 47, 3) := by decide +kernel
theorem dX2_copyFrom_82 : decode cX2_copyFrom 82 = .ok (.aload_n 0, 1) := by decide +kernel
theorem dX2_copyFrom_83 : decode cX2_copyFrom 83 = .ok (.aload_n 1, 1) := by decide +kernel
theorem dX2_copyFrom_84 : decode cX2_copyFrom 84 = .ok (.getfield 50, 3) := by decide +kernel
theorem dX2_copyFrom_87 : decode cX2_copyFrom 87 = .ok (.putfield 50, 3) := by decide +kernel
theorem dX2_copyFrom_90 : decode cX2_copyFrom 90 = .ok (.aload_n 0, 1) := by decide +kernel
theorem dX2_copyFrom_91 : decode cX2_copyFrom 91 = .ok (.aload_n 1, 1) := by decide +kernel
theorem dX2_copyFrom_92 : decode cX2_copyFrom 92 = .ok (.getfield 57, 3) := by decide +kernel
theorem dX2_copyFrom_95 : decode cX2_copyFrom 95 = .ok (.putfield 57, 3) := by decide +kernel
theorem dX2_copyFrom_98 : decode cX2_copyFrom 98 = .ok (.aload_n 0, 1) := by decide +kernel
theorem dX2_copyFrom_99 : decode cX2_copyFrom 99 = .ok (.aload_n 1, 1) := by decide +kernel
theorem dX2_copyFrom_100 : decode cX2_copyFrom 100 = .ok (.getfield 60, 3) := by decide +kernel
theorem dX2_copyFrom_103 : decode cX2_copyFrom 103 = .ok (.putfield 60, 3) := by decide +kernel
theorem dX2_copyFrom_106 : decode cX2_copyFrom 106 = .ok (.aload_n 0, 1) := by decide +kernel
theorem dX2_copyFrom_107 : decode cX2_copyFrom 107 = .ok (.aload_n 1, 1) := by decide +kernel
theorem dX2_copyFrom_108 : decode cX2_copyFrom 108 = .ok (.getfield 63, 3) := by decide +kernel
theorem dX2_copyFrom_111 : decode cX2_copyFrom 111 = .ok (.putfield 63, 3) := by decide +kernel
theorem dX2_copyFrom_114 : decode cX2_copyFrom 114 = .ok (.aload_n 0, 1) := by decide +kernel
theorem dX2_copyFrom_115 : decode cX2_copyFrom 115 = .ok (.aload_n 1, 1) := by decide +kernel
theorem dX2_copyFrom_116 : decode cX2_copyFrom 116 = .ok (.getfield 66, 3) := by decide +kernel
theorem dX2_copyFrom_119 : decode cX2_copyFrom 119 = .ok (.putfield 66, 3) := by decide +kernel
theorem dX2_copyFrom_122 : decode cX2_copyFrom 122 = .ok (.aload_n 0, 1) := by decide +kernel
theorem dX2_copyFrom_123 : decode cX2_copyFrom 123 = .ok (.aload_n 1, 1) := by decide +kernel
theorem dX2_copyFrom_124 : decode cX2_copyFrom 124 = .ok (.getfield 69, 3) := by decide +kernel
theorem dX2_copyFrom_127 : decode cX2_copyFrom 127 = .ok (.putfield 69, 3) := by decide +kernel
theorem dX2_copyFrom_130 : decode cX2_copyFrom 130 = .ok (.aload_n 0, 1) := by decide +kernel
theorem dX2_copyFrom_131 : decode cX2_copyFrom 131 = .ok (.iconst 0, 1) := by decide +kernel
theorem dX2_copyFrom_132 : decode cX2_copyFrom 132 = .ok (.putfield 72, 3) := by decide +kernel
theorem dX2_copyFrom_135 : decode cX2_copyFrom 135 = .ok (.aload_n 0, 1) := by decide +kernel
theorem dX2_copyFrom_136 : decode cX2_copyFrom 136 = .ok (.aload_n 1, 1) := by decide +kernel
theorem dX2_copyFrom_137 : decode cX2_copyFrom 137 = .ok (.getfield 75, 3) := by decide +kernel
theorem dX2_copyFrom_140 : decode cX2_copyFrom 140 = .ok (.putfield 75, 3) := by decide +kernel
theorem dX2_copyFrom_143 : decode cX2_copyFrom 143 = .ok (.return_, 1) := by decide +kernel
theorem dX2_exchange_0 : decode cX2_exchange 0 = .ok (.iload_n 1, 1) := by decide +kernel
theorem dX2_exchange_1 : decode cX2_exchange 1 = .ok (.ifCond .ne 10, 3) := by decide +kernel
theorem dX2_exchange_4 : decode cX2_exchange 4 = .ok (.aload_n 0, 1) := by decide +kernel
theorem dX2_exchange_5 : decode cX2_exchange 5 = .ok (.getfield 40, 3) := by decide +kernel
theorem dX2_exchange_8 : decode cX2_exchange 8 = .ok (.goto 43, 3) := by decide +kernel
theorem dX2_exchange_11 : decode cX2_exchange 11 = .ok (.iload_n 1, 1) := by decide +kernel
theorem dX2_exchange_12 : decode cX2_exchange 12 = .ok (.iconst 1, 1) := by decide +kernel
theorem dX2_exchange_13 : decode cX2_exchange 13 = .ok (.if_icmp .ne 10, 3) := by decide +kernel
theorem dX2_exchange_16 : decode cX2_exchange 16 = .ok (.aload_n 0, 1) := by decide +kernel
theorem dX2_exchange_17 : decode cX2_exchange 17 = .ok (.getfield 44, 3) := by decide +kernel
theorem dX2_exchange_20 : decode cX2_exchange 20 = .ok (.goto 31, 3) := by decide +kernel
theorem dX2_exchange_23 : decode cX2_exchange 23 = .ok (.iload_n 1, 1) := by decide +kernel
theorem dX2_exchange_24 : decode cX2_exchange 24 = .ok (.iconst 2, 1) := by decide +kernel
theorem dX2_exchange_25 : decode cX2_exchange 25 = .ok (.if_icmp .ne 10, 3) := by decide +kernel
theorem dX2_exchange_28 : decode cX2_exchange 28 = .ok (.aload_n 0, 1) := by decide +kernel
theorem dX2_exchange_29 : decode cX2_exchange 29 = .ok (.getfield 47, 3) := by decide +kernel
theorem dX2_exchange_32 : decode cX2_exchange 32 = .ok (.goto 19, 3) := by decide +kernel
theorem dX2_exchange_35 : decode cX2_exchange 35 = .ok (.iload_n 1, 1) := by decide +kernel
theorem dX2_exchange_36 : decode cX2_exchange 36 = .ok (.iconst 3, 1) := by decide +kernel
theorem dX2_exchange_37 : decode cX2_exchange 37 = .ok (.if_icmp .ne 10, 3) := by decide +kernel
theorem dX2_exchange_40 : decode cX2_exchange 40 = .ok (.aload_n 0, 1) := by decide +kernel
theorem dX2_exchange_41 : decode cX2_exchange 41 = .ok (.getfield 50, 3) := by decide +kernel
theorem dX2_exchange_44 : decode cX2_exchange 44 = .ok (.goto 7, 3) := by decide +kernel
theorem dX2_exchange_47 : decode cX2_exchange 47 = .ok (.aload_n 0, 1) := by decide +kernel
theorem dX2_exchange_48 : decode cX2_exchange 48 = .ok (.getfield 57, 3) := by decide +kernel
theorem dX2_exchange_51 : decode cX2_exchange 51 = .ok (.istore_n 3, 1) := by decide +kernel
theorem dX2_exchange_52 : decode cX2_exchange 52 = .ok (.iload_n 1, 1) := by decide +kernel
theorem dX2_exchange_53 : decode cX2_exchange 53 = .ok (.ifCond .ne 8, 3) := by decide +kernel
theorem dX2_exchange_56 : decode cX2_exchange 56 = .ok (.aload_n 0, 1) := by decide +kernel
theorem dX2_exchange_57 : decode cX2_exchange 57 = .ok (.iload_n 2, 1) := by decide +kernel
theorem dX2_exchange_58 : decode cX2_exchange 58 = .ok (.putfield 40, 3) := by decide +kernel
theorem dX2_exchange_61 : decode cX2_exchange 61 = .ok (.iload_n 1, 1) := by decide +kernel
theorem dX2_exchange_62 : decode cX2_exchange 62 = .ok (.iconst 1, 1) := by decide +kernel
theorem dX2_exchange_63 : decode cX2_exchange 63 = .ok (.if_icmp .ne 8, 3) := by decide +kernel
theorem dX2_exchange_66 : decode cX2_exchange 66 = .ok (.aload_n 0, 1) := by decide +kernel
theorem dX2_exchange_67 : decode cX2_exchange 67 = .ok (.iload_n 2, 1) := by decide +kernel
theorem dX2_exchange_68 : decode cX2_exchange 68 = .ok (.putfield 44, 3) := by decide +kernel
theorem dX2_exchange_71 : decode cX2_exchange 71 = .ok (.iload_n 1, 1) := by decide +kernel
theorem dX2_exchange_72 : decode cX2_exchange 72 = .ok (.iconst 2, 1) := by decide +kernel
theorem dX2_exchange_73 : decode cX2_exchange 73 = .ok (.if_icmp .ne 8, 3) := by decide +kernel
theorem dX2_exchange_76 : decode cX2_exchange 76 = .ok (.aload_n 0, 1) := by decide +kernel
theorem dX2_exchange_77 : decode cX2_exchange 77 = .ok (.iload_n 2, 1) := by decide +kernel
theorem dX2_exchange_78 : decode cX2_exchange 78 = .ok (.putfield 47, 3) := by decide +kernel
theorem dX2_exchange_81 : decode cX2_exchange 81 = .ok (.iload_n 1, 1) := by decide +kernel
theorem dX2_exchange_82 : decode cX2_exchange 82 = .ok (.iconst 3, 1) := by decide +kernel
theorem dX2_exchange_83 : decode cX2_exchange 83 = .ok (.if_icmp .ne 8, 3) := by decide +kernel
theorem dX2_exchange_86 : decode cX2_exchange 86 = .ok (.aload_n 0, 1) := by decide +kernel
theorem dX2_exchange_87 : decode cX2_exchange 87 = .ok (.iload_n 2, 1) := by decide +kernel
theorem dX2_exchange_88 : decode cX2_exchange 88 = .ok (.putfield 50, 3) := by decide +kernel
theorem dX2_exchange_91 : decode cX2_exchange 91 = .ok (.iload_n 1, 1) := by decide +kernel
theorem dX2_exchange_92 : decode cX2_exchange 92 = .ok (.iconst 4, 1) := by decide +kernel
theorem dX2_exchange_93 : decode cX2_exchange 93 = .ok (.if_icmp .ne 8, 3) := by decide +kernel
theorem dX2_exchange_96 : decode cX2_exchange 96 = .ok (.aload_n 0, 1) := by decide +kernel
theorem dX2_exchange_97 : decode cX2_exchange 97 = .ok (.iload_n 2, 1) := by decide +kernel
theorem dX2_exchange_98 : decode cX2_exchange 98 = .ok (.putfield 57, 3) := by decide +kernel
theorem dX2_exchange_101 : decode cX2_exchange 101 = .ok (.iload_n 3, 1) := by decide +kernel
theorem dX2_exchange_102 : decode cX2_exchange 102 = .ok (.ireturn, 1) := by decide +kernel
theorem dX2_shown_0 : decode cX2_shown 0 = .ok (.aload_n 0, 1) := by decide +kernel
theorem dX2_shown_1 : decode cX2_shown 1 = .ok (.getfield 9, 3) := by decide +kernel
theorem dX2_shown_4 : decode cX2_shown 4 = .ok (.iload_n 1, 1) := by decide +kernel
theorem dX2_shown_5 : decode cX2_shown 5 = .ok (.sipush 4095, 3) := by decide +kernel
theorem dX2_shown_8 : decode cX2_shown 8 = .ok (.iand, 1) := by decide +kernel
theorem dX2_shown_9 : decode cX2_shown 9 = .ok (.aload_n 0, 1) := by decide +kernel
theorem dX2_shown_10 : decode cX2_shown 10 = .ok (.getfield 27, 3) := by decide +kernel
theorem dX2_shown_13 : decode cX2_shown 13 = .ok (.getfield 89, 3) := by decide +kernel
theorem dX2_shown_16 : decode cX2_shown 16 = .ok (.invokestatic 92, 3) := by decide +kernel
theorem dX2_shown_19 : decode cX2_shown 19 = .ok (.invokestatic 96, 3) := by decide +kernel
theorem dX2_shown_22 : decode cX2_shown 22 = .ok (.ireturn, 1) := by decide +kernel
theorem dX2_wordAt_0 : decode cX2_wordAt 0 = .ok (.aload_n 0, 1) := by decide +kernel
theorem dX2_wordAt_1 : decode cX2_wordAt 1 = .ok (.iload_n 1, 1) := by decide +kernel
theorem dX2_wordAt_2 : decode cX2_wordAt 2 = .ok (.invokevirtual 100, 3) := by decide +kernel
theorem dX2_wordAt_5 : decode cX2_wordAt 5 = .ok (.sipush 256, 3) := by decide +kernel
theorem dX2_wordAt_8 : decode cX2_wordAt 8 = .ok (.aload_n 0, 1) := by decide +kernel
theorem dX2_wordAt_9 : decode cX2_wordAt 9 = .ok (.iload_n 1, 1) := by decide +kernel
theorem dX2_wordAt_10 : decode cX2_wordAt 10 = .ok (.iconst 1, 1) := by decide +kernel
theorem dX2_wordAt_11 : decode cX2_wordAt 11 = .ok (.iadd, 1) := by decide +kernel
theorem dX2_wordAt_12 : decode cX2_wordAt 12 = .ok (.invokevirtual 100, 3) := by decide +kernel
theorem dX2_wordAt_15 : decode cX2_wordAt 15 = .ok (.imul, 1) := by decide +kernel
theorem dX2_wordAt_16 : decode cX2_wordAt 16 = .ok (.iadd, 1) := by decide +kernel
theorem dX2_wordAt_17 : decode cX2_wordAt 17 = .ok (.ireturn, 1) := by decide +kernel
theorem dX2_vector_0 : decode cX2_vector 0 = .ok (.sipush 10992, 3) := by decide +kernel
theorem dX2_vector_3 : decode cX2_vector 3 = .ok (.iconst 2, 1) := by decide +kernel
theorem dX2_vector_4 : decode cX2_vector 4 = .ok (.iload_n 1, 1) := by decide +kernel
theorem dX2_vector_5 : decode cX2_vector 5 = .ok (.imul, 1) := by decide +kernel
theorem dX2_vector_6 : decode cX2_vector 6 = .ok (.iadd, 1) := by decide +kernel
theorem dX2_vector_7 : decode cX2_vector 7 = .ok (.istore_n 2, 1) := by decide +kernel
theorem dX2_vector_8 : decode cX2_vector 8 = .ok (.aload_n 0, 1) := by decide +kernel
theorem dX2_vector_9 : decode cX2_vector 9 = .ok (.getfield 9, 3) := by decide +kernel
theorem dX2_vector_12 : decode cX2_vector 12 = .ok (.iload_n 2, 1) := by decide +kernel
theorem dX2_vector_13 : decode cX2_vector 13 = .ok (.invokestatic 96, 3) := by decide +kernel
theorem dX2_vector_16 : decode cX2_vector 16 = .ok (.sipush 256, 3) := by decide +kernel
theorem dX2_vector_19 : decode cX2_vector 19 = .ok (.aload_n 0, 1) := by decide +kernel
theorem dX2_vector_20 : decode cX2_vector 20 = .ok (.getfield 9, 3) := by decide +kernel
theorem dX2_vector_23 : decode cX2_vector 23 = .ok (.iload_n 2, 1) := by decide +kernel
theorem dX2_vector_24 : decode cX2_vector 24 = .ok (.iconst 1, 1) := by decide +kernel
theorem dX2_vector_25 : decode cX2_vector 25 = .ok (.iadd, 1) := by decide +kernel
theorem dX2_vector_26 : decode cX2_vector 26 = .ok (.invokestatic 96, 3) := by decide +kernel
theorem dX2_vector_29 : decode cX2_vector 29 = .ok (.imul, 1) := by decide +kernel
theorem dX2_vector_30 : decode cX2_vector 30 = .ok (.iadd, 1) := by decide +kernel
theorem dX2_vector_31 : decode cX2_vector 31 = .ok (.sipush 4095, 3) := by decide +kernel
theorem dX2_vector_34 : decode cX2_vector 34 = .ok (.iand, 1) := by decide +kernel
theorem dX2_vector_35 : decode cX2_vector 35 = .ok (.ireturn, 1) := by decide +kernel
theorem dX2_operand_0 : decode cX2_operand 0 = .ok (.aload_n 0, 1) := by decide +kernel
theorem dX2_operand_1 : decode cX2_operand 1 = .ok (.iload_n 1, 1) := by decide +kernel
theorem dX2_operand_2 : decode cX2_operand 2 = .ok (.invokevirtual 100, 3) := by decide +kernel
theorem dX2_operand_5 : decode cX2_operand 5 = .ok (.istore_n 2, 1) := by decide +kernel
theorem dX2_operand_6 : decode cX2_operand 6 = .ok (.iload_n 2, 1) := by decide +kernel
theorem dX2_operand_7 : decode cX2_operand 7 = .ok (.invokestatic 103, 3) := by decide +kernel
theorem dX2_operand_10 : decode cX2_operand 10 = .ok (.istore_n 3, 1) := by decide +kernel
theorem dX2_operand_11 : decode cX2_operand 11 = .ok (.iload_n 3, 1) := by decide +kernel
theorem dX2_operand_12 : decode cX2_operand 12 = .ok (.iconst 2, 1) := by decide +kernel
theorem dX2_operand_13 : decode cX2_operand 13 = .ok (.if_icmp .ge 5, 3) := by decide +kernel
theorem dX2_operand_16 : decode cX2_operand 16 = .ok (.iconst (-1), 1) := by decide +kernel
theorem dX2_operand_17 : decode cX2_operand 17 = .ok (.ireturn, 1) := by decide +kernel
theorem dX2_operand_18 : decode cX2_operand 18 = .ok (.iload_n 2, 1) := by decide +kernel
theorem dX2_operand_19 : decode cX2_operand 19 = .ok (.sipush 208, 3) := by decide +kernel
theorem dX2_operand_22 : decode cX2_operand 22 = .ok (.if_icmp .lt 22, 3) := by decide +kernel
theorem dX2_operand_25 : decode cX2_operand 25 = .ok (.iload_n 1, 1) := by decide +kernel
theorem dX2_operand_26 : decode cX2_operand 26 = .ok (.iconst 2, 1) := by decide +kernel
theorem dX2_operand_27 : decode cX2_operand 27 = .ok (.iadd, 1) := by decide +kernel
theorem dX2_operand_28 : decode cX2_operand 28 = .ok (.aload_n 0, 1) := by decide +kernel
theorem dX2_operand_29 : decode cX2_operand 29 = .ok (.iload_n 1, 1) := by decide +kernel
theorem dX2_operand_30 : decode cX2_operand 30 = .ok (.iconst 1, 1) := by decide +kernel
theorem dX2_operand_31 : decode cX2_operand 31 = .ok (.iadd, 1) := by decide +kernel
theorem dX2_operand_32 : decode cX2_operand 32 = .ok (.invokevirtual 100, 3) := by decide +kernel
theorem dX2_operand_35 : decode cX2_operand 35 = .ok (.invokestatic 106, 3) := by decide +kernel
theorem dX2_operand_38 : decode cX2_operand 38 = .ok (.iadd, 1) := by decide +kernel
theorem dX2_operand_39 : decode cX2_operand 39 = .ok (.sipush 4095, 3) := by decide +kernel
theorem dX2_operand_42 : decode cX2_operand 42 = .ok (.iand, 1) := by decide +kernel
theorem dX2_operand_43 : decode cX2_operand 43 = .ok (.ireturn, 1) := by decide +kernel
theorem dX2_operand_44 : decode cX2_operand 44 = .ok (.iload_n 3, 1) := by decide +kernel
theorem dX2_operand_45 : decode cX2_operand 45 = .ok (.iconst 2, 1) := by decide +kernel
theorem dX2_operand_46 : decode cX2_operand 46 = .ok (.if_icmp .ne 13, 3) := by decide +kernel
theorem dX2_operand_49 : decode cX2_operand 49 = .ok (.aload_n 0, 1) := by decide +kernel
theorem dX2_operand_50 : decode cX2_operand 50 = .ok (.iload_n 1, 1) := by decide +kernel
theorem dX2_operand_51 : decode cX2_operand 51 = .ok (.iconst 1, 1) := by decide +kernel
theorem dX2_operand_52 : decode cX2_operand 52 = .ok (.iadd, 1) := by decide +kernel
theorem dX2_operand_53 : decode cX2_operand 53 = .ok (.invokevirtual 100, 3) := by decide +kernel
theorem dX2_operand_56 : decode cX2_operand 56 = .ok (.goto 10, 3) := by decide +kernel
theorem dX2_operand_59 : decode cX2_operand 59 = .ok (.aload_n 0, 1) := by decide +kernel
theorem dX2_operand_60 : decode cX2_operand 60 = .ok (.iload_n 1, 1) := by decide +kernel
theorem dX2_operand_61 : decode cX2_operand 61 = .ok (.iconst 1, 1) := by decide +kernel
theorem dX2_operand_62 : decode cX2_operand 62 = .ok (.iadd, 1) := by decide +kernel
theorem dX2_operand_63 : decode cX2_operand 63 = .ok (.invokevirtual 109, 3) := by decide +kernel
theorem dX2_operand_66 : decode cX2_operand 66 = .ok (.ireturn, 1) := by decide +kernel
theorem dX2_endReason_0 : decode cX2_endReason 0 = .ok (.aload_n 0, 1) := by decide +kernel
theorem dX2_endReason_1 : decode cX2_endReason 1 = .ok (.getfield 60, 3) := by decide +kernel
theorem dX2_endReason_4 : decode cX2_endReason 4 = .ok (.iconst 2, 1) := by decide +kernel
theorem dX2_endReason_5 : decode cX2_endReason 5 = .ok (.if_icmp .ne 7, 3) := by decide +kernel
theorem dX2_endReason_8 : decode cX2_endReason 8 = .ok (.iconst 4, 1) := by decide +kernel
theorem dX2_endReason_9 : decode cX2_endReason 9 = .ok (.goto 16, 3) := by decide +kernel
theorem dX2_endReason_12 : decode cX2_endReason 12 = .ok (.aload_n 0, 1) := by decide +kernel
theorem dX2_endReason_13 : decode cX2_endReason 13 = .ok (.getfield 60, 3) := by decide +kernel
theorem dX2_endReason_16 : decode cX2_endReason 16 = .ok (.iconst 3, 1) := by decide +kernel
theorem dX2_endReason_17 : decode cX2_endReason 17 = .ok (.if_icmp .ne 7, 3) := by decide +kernel
theorem dX2_endReason_20 : decode cX2_endReason 20 = .ok (.iconst 5, 1) := by decide +kernel
theorem dX2_endReason_21 : decode cX2_endReason 21 = .ok (.goto 4, 3) := by decide +kernel
theorem dX2_endReason_24 : decode cX2_endReason 24 = .ok (.iconst 0, 1) := by decide +kernel
theorem dX2_endReason_25 : decode cX2_endReason 25 = .ok (.ireturn, 1) := by decide +kernel
theorem dX2_isReady_0 : decode cX2_isReady 0 = .ok (.aload_n 0, 1) := by decide +kernel
theorem dX2_isReady_1 : decode cX2_isReady 1 = .ok (.getfield 60, 3) := by decide +kernel
theorem dX2_isReady_4 : decode cX2_isReady 4 = .ok (.ifCond .ne 33, 3) := by decide +kernel
theorem dX2_isReady_7 : decode cX2_isReady 7 = .ok (.aload_n 0, 1) := by decide +kernel
theorem dX2_isReady_8 : decode cX2_isReady 8 = .ok (.getfield 75, 3) := by decide +kernel
theorem dX2_isReady_11 : decode cX2_isReady 11 = .ok (.ifCond .ne 26, 3) := by decide +kernel
theorem dX2_isReady_14 : decode cX2_isReady 14 = .ok (.aload_n 0, 1) := by decide +kernel
theorem dX2_isReady_15 : decode cX2_isReady 15 = .ok (.getfield 50, 3) := by decide +kernel
theorem dX2_isReady_18 : decode cX2_isReady 18 = .ok (.iconst 4, 1) := by decide +kernel
theorem dX2_isReady_19 : decode cX2_isReady 19 = .ok (.iand, 1) := by decide +kernel
theorem dX2_isReady_20 : decode cX2_isReady 20 = .ok (.ifCond .ne 13, 3) := by decide +kernel
theorem dX2_isReady_23 : decode cX2_isReady 23 = .ok (.aload_n 0, 1) := by decide +kernel
theorem dX2_isReady_24 : decode cX2_isReady 24 = .ok (.getfield 27, 3) := by decide +kernel
theorem dX2_isReady_27 : decode cX2_isReady 27 = .ok (.invokevirtual 112, 3) := by decide +kernel
theorem dX2_isReady_30 : decode cX2_isReady 30 = .ok (.ifCond .ne 7, 3) := by decide +kernel
theorem dX2_isReady_33 : decode cX2_isReady 33 = .ok (.iconst 1, 1) := by decide +kernel
theorem dX2_isReady_34 : decode cX2_isReady 34 = .ok (.goto 4, 3) := by decide +kernel
theorem dX2_isReady_37 : decode cX2_isReady 37 = .ok (.iconst 0, 1) := by decide +kernel
theorem dX2_isReady_38 : decode cX2_isReady 38 = .ok (.ireturn, 1) := by decide +kernel
theorem dX2_isReadyAt_0 : decode cX2_isReadyAt 0 = .ok (.aload_n 0, 1) := by decide +kernel
theorem dX2_isReadyAt_1 : decode cX2_isReadyAt 1 = .ok (.getfield 57, 3) := by decide +kernel
theorem dX2_isReadyAt_4 : decode cX2_isReadyAt 4 = .ok (.iload_n 1, 1) := by decide +kernel
theorem dX2_isReadyAt_5 : decode cX2_isReadyAt 5 = .ok (.if_icmp .ne 14, 3) := by decide +kernel
theorem dX2_isReadyAt_8 : decode cX2_isReadyAt 8 = .ok (.aload_n 0, 1) := by decide +kernel
theorem dX2_isReadyAt_9 : decode cX2_isReadyAt 9 = .ok (.invokevirtual 116, 3) := by decide +kernel
theorem dX2_isReadyAt_12 : decode cX2_isReadyAt 12 = .ok (.ifCond .eq 7, 3) := by decide +kernel
theorem dX2_isReadyAt_15 : decode cX2_isReadyAt 15 = .ok (.iconst 1, 1) := by decide +kernel
theorem dX2_isReadyAt_16 : decode cX2_isReadyAt 16 = .ok (.goto 4, 3) := by decide +kernel
theorem dX2_isReadyAt_19 : decode cX2_isReadyAt 19 = .ok (.iconst 0, 1) := by decide +kernel
theorem dX2_isReadyAt_20 : decode cX2_isReadyAt 20 = .ok (.ireturn, 1) := by decide +kernel
theorem dX2_isAtCall_0 : decode cX2_isAtCall 0 = .ok (.aload_n 0, 1) := by decide +kernel
theorem dX2_isAtCall_1 : decode cX2_isAtCall 1 = .ok (.aload_n 0, 1) := by decide +kernel
theorem dX2_isAtCall_2 : decode cX2_isAtCall 2 = .ok (.getfield 57, 3) := by decide +kernel
theorem dX2_isAtCall_5 : decode cX2_isAtCall 5 = .ok (.invokevirtual 100, 3) := by decide +kernel
theorem dX2_isAtCall_8 : decode cX2_isAtCall 8 = .ok (.istore_n 1, 1) := by decide +kernel
theorem dX2_isAtCall_9 : decode cX2_isAtCall 9 = .ok (.iload_n 1, 1) := by decide +kernel
theorem dX2_isAtCall_10 : decode cX2_isAtCall 10 = .ok (.sipush 217, 3) := by decide +kernel
theorem dX2_isAtCall_13 : decode cX2_isAtCall 13 = .ok (.if_icmp .eq 18, 3) := by decide +kernel
theorem dX2_isAtCall_16 : decode cX2_isAtCall 16 = .ok (.iload_n 1, 1) := by decide +kernel
theorem dX2_isAtCall_17 : decode cX2_isAtCall 17 = .ok (.iconst 3, 1) := by decide +kernel
theorem dX2_isAtCall_18 : decode cX2_isAtCall 18 = .ok (.ishr, 1) := by decide +kernel
theorem dX2_isAtCall_19 : decode cX2_isAtCall 19 = .ok (.bipush 25, 2) := by decide +kernel
theorem dX2_isAtCall_21 : decode cX2_isAtCall 21 = .ok (.if_icmp .ne 14, 3) := by decide +kernel
theorem dX2_isAtCall_24 : decode cX2_isAtCall 24 = .ok (.iload_n 1, 1) := by decide +kernel
theorem dX2_isAtCall_25 : decode cX2_isAtCall 25 = .ok (.invokestatic 103, 3) := by decide +kernel
theorem dX2_isAtCall_28 : decode cX2_isAtCall 28 = .ok (.ifCond .le 7, 3) := by decide +kernel
theorem dX2_isAtCall_31 : decode cX2_isAtCall 31 = .ok (.iconst 1, 1) := by decide +kernel
theorem dX2_isAtCall_32 : decode cX2_isAtCall 32 = .ok (.goto 4, 3) := by decide +kernel
theorem dX2_isAtCall_35 : decode cX2_isAtCall 35 = .ok (.iconst 0, 1) := by decide +kernel
theorem dX2_isAtCall_36 : decode cX2_isAtCall 36 = .ok (.ireturn, 1) := by decide +kernel
theorem dX2_busiest_0 : decode cX2_busiest 0 = .ok (.iconst (-1), 1) := by decide +kernel
theorem dX2_busiest_1 : decode cX2_busiest 1 = .ok (.istore_n 1, 1) := by decide +kernel
theorem dX2_busiest_2 : decode cX2_busiest 2 = .ok (.iconst 0, 1) := by decide +kernel
theorem dX2_busiest_3 : decode cX2_busiest 3 = .ok (.istore_n 2, 1) := by decide +kernel
theorem dX2_busiest_4 : decode cX2_busiest 4 = .ok (.iconst 0, 1) := by decide +kernel
theorem dX2_busiest_5 : decode cX2_busiest 5 = .ok (.istore_n 3, 1) := by decide +kernel
theorem dX2_busiest_6 : decode cX2_busiest 6 = .ok (.iload_n 3, 1) := by decide +kernel
theorem dX2_busiest_7 : decode cX2_busiest 7 = .ok (.sipush 4096, 3) := by decide +kernel
theorem dX2_busiest_10 : decode cX2_busiest 10 = .ok (.if_icmp .ge 32, 3) := by decide +kernel
theorem dX2_busiest_13 : decode cX2_busiest 13 = .ok (.aload_n 0, 1) := by decide +kernel
theorem dX2_busiest_14 : decode cX2_busiest 14 = .ok (.getfield 15, 3) := by decide +kernel
theorem dX2_busiest_17 : decode cX2_busiest 17 = .ok (.iload_n 3, 1) := by decide +kernel
theorem dX2_busiest_18 : decode cX2_busiest 18 = .ok (.invokestatic 96, 3) := by decide +kernel
theorem dX2_busiest_21 : decode cX2_busiest 21 = .ok (.iload_n 2, 1) := by decide +kernel
theorem dX2_busiest_22 : decode cX2_busiest 22 = .ok (.if_icmp .le 14, 3) := by decide +kernel
theorem dX2_busiest_25 : decode cX2_busiest 25 = .ok (.aload_n 0, 1) := by decide +kernel
theorem dX2_busiest_26 : decode cX2_busiest 26 = .ok (.getfield 15, 3) := by decide +kernel
theorem dX2_busiest_29 : decode cX2_busiest 29 = .ok (.iload_n 3, 1) := by decide +kernel
theorem dX2_busiest_30 : decode cX2_busiest 30 = .ok (.invokestatic 96, 3) := by decide +kernel
theorem dX2_busiest_33 : decode cX2_busiest 33 = .ok (.istore_n 2, 1) := by decide +kernel
theorem dX2_busiest_34 : decode cX2_busiest 34 = .ok (.iload_n 3, 1) := by decide +kernel
theorem dX2_busiest_35 : decode cX2_busiest 35 = .ok (.istore_n 1, 1) := by decide +kernel
theorem dX2_busiest_36 : decode cX2_busiest 36 = .ok (.iinc 3 1, 3) := by decide +kernel
theorem dX2_busiest_39 : decode cX2_busiest 39 = .ok (.goto (-33), 3) := by decide +kernel
theorem dX2_busiest_42 : decode cX2_busiest 42 = .ok (.iload_n 1, 1) := by decide +kernel
theorem dX2_busiest_43 : decode cX2_busiest 43 = .ok (.ireturn, 1) := by decide +kernel
theorem dX2_writesTo_0 : decode cX2_writesTo 0 = .ok (.iconst 0, 1) := by decide +kernel
theorem dX2_writesTo_1 : decode cX2_writesTo 1 = .ok (.istore_n 2, 1) := by decide +kernel
theorem dX2_writesTo_2 : decode cX2_writesTo 2 = .ok (.iconst 0, 1) := by decide +kernel
theorem dX2_writesTo_3 : decode cX2_writesTo 3 = .ok (.istore_n 3, 1) := by decide +kernel
theorem dX2_writesTo_4 : decode cX2_writesTo 4 = .ok (.iload_n 3, 1) := by decide +kernel
theorem dX2_writesTo_5 : decode cX2_writesTo 5 = .ok (.aload_n 0, 1) := by decide +kernel
theorem dX2_writesTo_6 : decode cX2_writesTo 6 = .ok (.getfield 72, 3) := by decide +kernel
theorem dX2_writesTo_9 : decode cX2_writesTo 9 = .ok (.if_icmp .ge 28, 3) := by decide +kernel
theorem dX2_writesTo_12 : decode cX2_writesTo 12 = .ok (.aload_n 0, 1) := by decide +kernel
theorem dX2_writesTo_13 : decode cX2_writesTo 13 = .ok (.getfield 21, 3) := by decide +kernel
theorem dX2_writesTo_16 : decode cX2_writesTo 16 = .ok (.iload_n 3, 1) := by decide +kernel
theorem dX2_writesTo_17 : decode cX2_writesTo 17 = .ok (.invokestatic 96, 3) := by decide +kernel
theorem dX2_writesTo_20 : decode cX2_writesTo 20 = .ok (.iload_n 1, 1) := by decide +kernel
theorem dX2_writesTo_21 : decode cX2_writesTo 21 = .ok (.sipush 4096, 3) := by decide +kernel
theorem dX2_writesTo_24 : decode cX2_writesTo 24 = .ok (.iadd, 1) := by decide +kernel
theorem dX2_writesTo_25 : decode cX2_writesTo 25 = .ok (.if_icmp .ne 6, 3) := by decide +kernel
theorem dX2_writesTo_28 : decode cX2_writesTo 28 = .ok (.iinc 2 1, 3) := by decide +kernel
theorem dX2_writesTo_31 : decode cX2_writesTo 31 = .ok (.iinc 3 1, 3) := by decide +kernel
theorem dX2_writesTo_34 : decode cX2_writesTo 34 = .ok (.goto (-30), 3) := by decide +kernel
theorem dX2_writesTo_37 : decode cX2_writesTo 37 = .ok (.iload_n 2, 1) := by decide +kernel
theorem dX2_writesTo_38 : decode cX2_writesTo 38 = .ok (.ireturn, 1) := by decide +kernel
theorem dX2_mixRegisters_0 : decode cX2_mixRegisters 0 = .ok (.lload_n 1, 1) := by decide +kernel
theorem dX2_mixRegisters_1 : decode cX2_mixRegisters 1 = .ok (.ldc2_w 120, 3) := by decide +kernel
theorem dX2_mixRegisters_4 : decode cX2_mixRegisters 4 = .ok (.lmul, 1) := by decide +kernel
theorem dX2_mixRegisters_5 : decode cX2_mixRegisters 5 = .ok (.aload_n 0, 1) := by decide +kernel
theorem dX2_mixRegisters_6 : decode cX2_mixRegisters 6 = .ok (.getfield 40, 3) := by decide +kernel
theorem dX2_mixRegisters_9 : decode cX2_mixRegisters 9 = .ok (.i2l, 1) := by decide +kernel
theorem dX2_mixRegisters_10 : decode cX2_mixRegisters 10 = .ok (.ladd, 1) := by decide +kernel
theorem dX2_mixRegisters_11 : decode cX2_mixRegisters 11 = .ok (.lstore_n 1, 1) := by decide +kernel
theorem dX2_mixRegisters_12 : decode cX2_mixRegisters 12 = .ok (.lload_n 1, 1) := by decide +kernel
theorem dX2_mixRegisters_13 : decode cX2_mixRegisters 13 = .ok (.ldc2_w 120, 3) := by decide +kernel
theorem dX2_mixRegisters_16 : decode cX2_mixRegisters 16 = .ok (.lmul, 1) := by decide +kernel
theorem dX2_mixRegisters_17 : decode cX2_mixRegisters 17 = .ok (.aload_n 0, 1) := by decide +kernel
theorem dX2_mixRegisters_18 : decode cX2_mixRegisters 18 = .ok (.getfield 44, 3) := by decide +kernel
theorem dX2_mixRegisters_21 : decode cX2_mixRegisters 21 = .ok (.i2l, 1) := by decide +kernel
theorem dX2_mixRegisters_22 : decode cX2_mixRegisters 22 = .ok (.ladd, 1) := by decide +kernel
theorem dX2_mixRegisters_23 : decode cX2_mixRegisters 23 = .ok (.lstore_n 1, 1) := by decide +kernel
theorem dX2_mixRegisters_24 : decode cX2_mixRegisters 24 = .ok (.lload_n 1, 1) := by decide +kernel
theorem dX2_mixRegisters_25 : decode cX2_mixRegisters 25 = .ok (.ldc2_w 120, 3) := by decide +kernel
theorem dX2_mixRegisters_28 : decode cX2_mixRegisters 28 = .ok (.lmul, 1) := by decide +kernel
theorem dX2_mixRegisters_29 : decode cX2_mixRegisters 29 = .ok (.aload_n 0, 1) := by decide +kernel
theorem dX2_mixRegisters_30 : decode cX2_mixRegisters 30 = .ok (.getfield 47, 3) := by decide +kernel
theorem dX2_mixRegisters_33 : decode cX2_mixRegisters 33 = .ok (.i2l, 1) := by decide +kernel
theorem dX2_mixRegisters_34 : decode cX2_mixRegisters 34 = .ok (.ladd, 1) := by decide +kernel
theorem dX2_mixRegisters_35 : decode cX2_mixRegisters 35 = .ok (.lstore_n 1, 1) := by decide +kernel
theorem dX2_mixRegisters_36 : decode cX2_mixRegisters 36 = .ok (.lload_n 1, 1) := by decide +kernel
theorem dX2_mixRegisters_37 : decode cX2_mixRegisters 37 = .ok (.ldc2_w 120, 3) := by decide +kernel
theorem dX2_mixRegisters_40 : decode cX2_mixRegisters 40 = .ok (.lmul, 1) := by decide +kernel
theorem dX2_mixRegisters_41 : decode cX2_mixRegisters 41 = .ok (.aload_n 0, 1) := by decide +kernel
theorem dX2_mixRegisters_42 : decode cX2_mixRegisters 42 = .ok (.getfield 50, 3) := by decide +kernel
theorem dX2_mixRegisters_45 : decode cX2_mixRegisters 45 = .ok (.i2l, 1) := by decide +kernel
theorem dX2_mixRegisters_46 : decode cX2_mixRegisters 46 = .ok (.ladd, 1) := by decide +kernel
theorem dX2_mixRegisters_47 : decode cX2_mixRegisters 47 = .ok (.lstore_n 1, 1) := by decide +kernel
theorem dX2_mixRegisters_48 : decode cX2_mixRegisters 48 = .ok (.lload_n 1, 1) := by decide +kernel
theorem dX2_mixRegisters_49 : decode cX2_mixRegisters 49 = .ok (.ldc2_w 120, 3) := by decide +kernel
theorem dX2_mixRegisters_52 : decode cX2_mixRegisters 52 = .ok (.lmul, 1) := by decide +kernel
theorem dX2_mixRegisters_53 : decode cX2_mixRegisters 53 = .ok (.aload_n 0, 1) := by decide +kernel
theorem dX2_mixRegisters_54 : decode cX2_mixRegisters 54 = .ok (.getfield 57, 3) := by decide +kernel
theorem dX2_mixRegisters_57 : decode cX2_mixRegisters 57 = .ok (.i2l, 1) := by decide +kernel
theorem dX2_mixRegisters_58 : decode cX2_mixRegisters 58 = .ok (.ladd, 1) := by decide +kernel
theorem dX2_mixRegisters_59 : decode cX2_mixRegisters 59 = .ok (.lstore_n 1, 1) := by decide +kernel
theorem dX2_mixRegisters_60 : decode cX2_mixRegisters 60 = .ok (.lload_n 1, 1) := by decide +kernel
theorem dX2_mixRegisters_61 : decode cX2_mixRegisters 61 = .ok (.ldc2_w 120, 3) := by decide +kernel
theorem dX2_mixRegisters_64 : decode cX2_mixRegisters 64 = .ok (.lmul, 1) := by decide +kernel
theorem dX2_mixRegisters_65 : decode cX2_mixRegisters 65 = .ok (.aload_n 0, 1) := by decide +kernel
theorem dX2_mixRegisters_66 : decode cX2_mixRegisters 66 = .ok (.getfield 60, 3) := by decide +kernel
theorem dX2_mixRegisters_69 : decode cX2_mixRegisters 69 = .ok (.i2l, 1) := by decide +kernel
theorem dX2_mixRegisters_70 : decode cX2_mixRegisters 70 = .ok (.ladd, 1) := by decide +kernel
theorem dX2_mixRegisters_71 : decode cX2_mixRegisters 71 = .ok (.lstore_n 1, 1) := by decide +kernel
theorem dX2_mixRegisters_72 : decode cX2_mixRegisters 72 = .ok (.lload_n 1, 1) := by decide +kernel
theorem dX2_mixRegisters_73 : decode cX2_mixRegisters 73 = .ok (.ldc2_w 120, 3) := by decide +kernel
theorem dX2_mixRegisters_76 : decode cX2_mixRegisters 76 = .ok (.lmul, 1) := by decide +kernel
theorem dX2_mixRegisters_77 : decode cX2_mixRegisters 77 = .ok (.aload_n 0, 1) := by decide +kernel
theorem dX2_mixRegisters_78 : decode cX2_mixRegisters 78 = .ok (.getfield 63, 3) := by decide +kernel
theorem dX2_mixRegisters_81 : decode cX2_mixRegisters 81 = .ok (.i2l, 1) := by decide +kernel
theorem dX2_mixRegisters_82 : decode cX2_mixRegisters 82 = .ok (.ladd, 1) := by decide +kernel
theorem dX2_mixRegisters_83 : decode cX2_mixRegisters 83 = .ok (.lstore_n 1, 1) := by decide +kernel
theorem dX2_mixRegisters_84 : decode cX2_mixRegisters 84 = .ok (.lload_n 1, 1) := by decide +kernel
theorem dX2_mixRegisters_85 : decode cX2_mixRegisters 85 = .ok (.ldc2_w 120, 3) := by decide +kernel
theorem dX2_mixRegisters_88 : decode cX2_mixRegisters 88 = .ok (.lmul, 1) := by decide +kernel
theorem dX2_mixRegisters_89 : decode cX2_mixRegisters 89 = .ok (.aload_n 0, 1) := by decide +kernel
theorem dX2_mixRegisters_90 : decode cX2_mixRegisters 90 = .ok (.getfield 66, 3) := by decide +kernel
theorem dX2_mixRegisters_93 : decode cX2_mixRegisters 93 = .ok (.i2l, 1) := by decide +kernel
theorem dX2_mixRegisters_94 : decode cX2_mixRegisters 94 = .ok (.ladd, 1) := by decide +kernel
theorem dX2_mixRegisters_95 : decode cX2_mixRegisters 95 = .ok (.lreturn, 1) := by decide +kernel
theorem dX2_mixCalls_0 : decode cX2_mixCalls 0 = .ok (.lload_n 1, 1) := by decide +kernel
theorem dX2_mixCalls_1 : decode cX2_mixCalls 1 = .ok (.ldc2_w 120, 3) := by decide +kernel
theorem dX2_mixCalls_4 : decode cX2_mixCalls 4 = .ok (.lmul, 1) := by decide +kernel
theorem dX2_mixCalls_5 : decode cX2_mixCalls 5 = .ok (.aload_n 0, 1) := by decide +kernel
theorem dX2_mixCalls_6 : decode cX2_mixCalls 6 = .ok (.getfield 69, 3) := by decide +kernel
theorem dX2_mixCalls_9 : decode cX2_mixCalls 9 = .ok (.i2l, 1) := by decide +kernel
theorem dX2_mixCalls_10 : decode cX2_mixCalls 10 = .ok (.ladd, 1) := by decide +kernel
theorem dX2_mixCalls_11 : decode cX2_mixCalls 11 = .ok (.lstore_n 1, 1) := by decide +kernel
theorem dX2_mixCalls_12 : decode cX2_mixCalls 12 = .ok (.aload_n 0, 1) := by decide +kernel
theorem dX2_mixCalls_13 : decode cX2_mixCalls 13 = .ok (.getfield 69, 3) := by decide +kernel
theorem dX2_mixCalls_16 : decode cX2_mixCalls 16 = .ok (.iconst 1, 1) := by decide +kernel
theorem dX2_mixCalls_17 : decode cX2_mixCalls 17 = .ok (.isub, 1) := by decide +kernel
theorem dX2_mixCalls_18 : decode cX2_mixCalls 18 = .ok (.istore_n 3, 1) := by decide +kernel
theorem dX2_mixCalls_19 : decode cX2_mixCalls 19 = .ok (.iload_n 3, 1) := by decide +kernel
theorem dX2_mixCalls_20 : decode cX2_mixCalls 20 = .ok (.ifCond .lt 25, 3) := by decide +kernel
theorem dX2_mixCalls_23 : decode cX2_mixCalls 23 = .ok (.lload_n 1, 1) := by decide +kernel
theorem dX2_mixCalls_24 : decode cX2_mixCalls 24 = .ok (.ldc2_w 120, 3) := by decide +kernel
theorem dX2_mixCalls_27 : decode cX2_mixCalls 27 = .ok (.lmul, 1) := by decide +kernel
theorem dX2_mixCalls_28 : decode cX2_mixCalls 28 = .ok (.aload_n 0, 1) := by decide +kernel
theorem dX2_mixCalls_29 : decode cX2_mixCalls 29 = .ok (.getfield 18, 3) := by decide +kernel
theorem dX2_mixCalls_32 : decode cX2_mixCalls 32 = .ok (.iload_n 3, 1) := by decide +kernel
theorem dX2_mixCalls_33 : decode cX2_mixCalls 33 = .ok (.invokestatic 96, 3) := by decide +kernel
theorem dX2_mixCalls_36 : decode cX2_mixCalls 36 = .ok (.i2l, 1) := by decide +kernel
theorem dX2_mixCalls_37 : decode cX2_mixCalls 37 = .ok (.ladd, 1) := by decide +kernel
theorem dX2_mixCalls_38 : decode cX2_mixCalls 38 = .ok (.lstore_n 1, 1) := by decide +kernel
theorem dX2_mixCalls_39 : decode cX2_mixCalls 39 = .ok (.iinc 3 (-1), 3) := by decide +kernel
theorem dX2_mixCalls_42 : decode cX2_mixCalls 42 = .ok (.goto (-23), 3) := by decide +kernel
theorem dX2_mixCalls_45 : decode cX2_mixCalls 45 = .ok (.lload_n 1, 1) := by decide +kernel
theorem dX2_mixCalls_46 : decode cX2_mixCalls 46 = .ok (.lreturn, 1) := by decide +kernel
theorem dX2_advance_0 : decode cX2_advance 0 = .ok (.aload_n 0, 1) := by decide +kernel
theorem dX2_advance_1 : decode cX2_advance 1 = .ok (.iconst 0, 1) := by decide +kernel
theorem dX2_advance_2 : decode cX2_advance 2 = .ok (.putfield 72, 3) := by decide +kernel
theorem dX2_advance_5 : decode cX2_advance 5 = .ok (.aload_n 0, 1) := by decide +kernel
theorem dX2_advance_6 : decode cX2_advance 6 = .ok (.iconst 0, 1) := by decide +kernel
theorem dX2_advance_7 : decode cX2_advance 7 = .ok (.putfield 122, 3) := by decide +kernel
theorem dX2_advance_10 : decode cX2_advance 10 = .ok (.aload_n 0, 1) := by decide +kernel
theorem dX2_advance_11 : decode cX2_advance 11 = .ok (.invokevirtual 125, 3) := by decide +kernel
theorem dX2_advance_14 : decode cX2_advance 14 = .ok (.ifCond .eq 5, 3) := by decide +kernel
theorem dX2_advance_17 : decode cX2_advance 17 = .ok (.iconst 0, 1) := by decide +kernel
theorem dX2_advance_18 : decode cX2_advance 18 = .ok (.ireturn, 1) := by decide +kernel
theorem dX2_advance_19 : decode cX2_advance 19 = .ok (.aload_n 0, 1) := by decide +kernel
theorem dX2_advance_20 : decode cX2_advance 20 = .ok (.getfield 27, 3) := by decide +kernel
theorem dX2_advance_23 : decode cX2_advance 23 = .ok (.invokevirtual 112, 3) := by decide +kernel
theorem dX2_advance_26 : decode cX2_advance 26 = .ok (.istore_n 1, 1) := by decide +kernel
theorem dX2_advance_27 : decode cX2_advance 27 = .ok (.aload_n 0, 1) := by decide +kernel
theorem dX2_advance_28 : decode cX2_advance 28 = .ok (.getfield 75, 3) := by decide +kernel
theorem dX2_advance_31 : decode cX2_advance 31 = .ok (.ifCond .eq 16, 3) := by decide +kernel
theorem dX2_advance_34 : decode cX2_advance 34 = .ok (.aload_n 0, 1) := by decide +kernel
theorem dX2_advance_35 : decode cX2_advance 35 = .ok (.iconst 0, 1) := by decide +kernel
theorem dX2_advance_36 : decode cX2_advance 36 = .ok (.putfield 75, 3) := by decide +kernel
theorem dX2_advance_39 : decode cX2_advance 39 = .ok (.aload_n 0, 1) := by decide +kernel
theorem dX2_advance_40 : decode cX2_advance 40 = .ok (.iconst 1, 1) := by decide +kernel
theorem dX2_advance_41 : decode cX2_advance 41 = .ok (.invokevirtual 128, 3) := by decide +kernel
theorem dX2_advance_44 : decode cX2_advance 44 = .ok (.goto 61, 3) := by decide +kernel
theorem dX2_advance_47 : decode cX2_advance 47 = .ok (.iload_n 1, 1) := by decide +kernel
theorem dX2_advance_48 : decode cX2_advance 48 = .ok (.ifCond .eq 28, 3) := by decide +kernel
theorem dX2_advance_51 : decode cX2_advance 51 = .ok (.aload_n 0, 1) := by decide +kernel
theorem dX2_advance_52 : decode cX2_advance 52 = .ok (.getfield 50, 3) := by decide +kernel
theorem dX2_advance_55 : decode cX2_advance 55 = .ok (.iconst 4, 1) := by decide +kernel
theorem dX2_advance_56 : decode cX2_advance 56 = .ok (.iand, 1) := by decide +kernel
theorem dX2_advance_57 : decode cX2_advance 57 = .ok (.ifCond .ne 19, 3) := by decide +kernel
theorem dX2_advance_60 : decode cX2_advance 60 = .ok (.aload_n 0, 1) := by decide +kernel
theorem dX2_advance_61 : decode cX2_advance 61 = .ok (.iconst 2, 1) := by decide +kernel
theorem dX2_advance_62 : decode cX2_advance 62 = .ok (.aload_n 0, 1) := by decide +kernel
theorem dX2_advance_63 : decode cX2_advance 63 = .ok (.getfield 27, 3) := by decide +kernel
theorem dX2_advance_66 : decode cX2_advance 66 = .ok (.invokevirtual 132, 3) := by decide +kernel
theorem dX2_advance_69 : decode cX2_advance 69 = .ok (.iadd, 1) := by decide +kernel
theorem dX2_advance_70 : decode cX2_advance 70 = .ok (.invokevirtual 128, 3) := by decide +kernel
theorem dX2_advance_73 : decode cX2_advance 73 = .ok (.goto 32, 3) := by decide +kernel
theorem dX2_advance_76 : decode cX2_advance 76 = .ok (.aload_n 0, 1) := by decide +kernel
theorem dX2_advance_77 : decode cX2_advance 77 = .ok (.getfield 60, 3) := by decide +kernel
theorem dX2_advance_80 : decode cX2_advance 80 = .ok (.iconst 1, 1) := by decide +kernel
theorem dX2_advance_81 : decode cX2_advance 81 = .ok (.if_icmp .ne 15, 3) := by decide +kernel
theorem dX2_advance_84 : decode cX2_advance 84 = .ok (.iload_n 1, 1) := by decide +kernel
theorem dX2_advance_85 : decode cX2_advance 85 = .ok (.ifCond .ne 11, 3) := by decide +kernel
theorem dX2_advance_88 : decode cX2_advance 88 = .ok (.aload_n 0, 1) := by decide +kernel
theorem dX2_advance_89 : decode cX2_advance 89 = .ok (.iconst 1, 1) := by decide +kernel
theorem dX2_advance_90 : decode cX2_advance 90 = .ok (.putfield 122, 3) := by decide +kernel
theorem dX2_advance_93 : decode cX2_advance 93 = .ok (.goto 12, 3) := by decide +kernel
theorem dX2_advance_96 : decode cX2_advance 96 = .ok (.aload_n 0, 1) := by decide +kernel
theorem dX2_advance_97 : decode cX2_advance 97 = .ok (.iconst 0, 1) := by decide +kernel
theorem dX2_advance_98 : decode cX2_advance 98 = .ok (.putfield 60, 3) := by decide +kernel
theorem dX2_advance_101 : decode cX2_advance 101 = .ok (.aload_n 0, 1) := by decide +kernel
theorem dX2_advance_102 : decode cX2_advance 102 = .ok (.invokevirtual 135, 3) := by decide +kernel
theorem dX2_advance_105 : decode cX2_advance 105 = .ok (.aload_n 0, 1) := by decide +kernel
theorem dX2_advance_106 : decode cX2_advance 106 = .ok (.getfield 72, 3) := by decide +kernel
theorem dX2_advance_109 : decode cX2_advance 109 = .ok (.aload_n 0, 1) := by decide +kernel
theorem dX2_advance_110 : decode cX2_advance 110 = .ok (.getfield 122, 3) := by decide +kernel
theorem dX2_advance_113 : decode cX2_advance 113 = .ok (.iadd, 1) := by decide +kernel
theorem dX2_advance_114 : decode cX2_advance 114 = .ok (.istore_n 2, 1) := by decide +kernel
theorem dX2_advance_115 : decode cX2_advance 115 = .ok (.aload_n 0, 1) := by decide +kernel
theorem dX2_advance_116 : decode cX2_advance 116 = .ok (.dup, 1) := by decide +kernel
theorem dX2_advance_117 : decode cX2_advance 117 = .ok (.getfield 63, 3) := by decide +kernel
theorem dX2_advance_120 : decode cX2_advance 120 = .ok (.iload_n 2, 1) := by decide +kernel
theorem dX2_advance_121 : decode cX2_advance 121 = .ok (.iadd, 1) := by decide +kernel
theorem dX2_advance_122 : decode cX2_advance 122 = .ok (.putfield 63, 3) := by decide +kernel
theorem dX2_advance_125 : decode cX2_advance 125 = .ok (.aload_n 0, 1) := by decide +kernel
theorem dX2_advance_126 : decode cX2_advance 126 = .ok (.getfield 27, 3) := by decide +kernel
theorem dX2_advance_129 : decode cX2_advance 129 = .ok (.iload_n 2, 1) := by decide +kernel
theorem dX2_advance_130 : decode cX2_advance 130 = .ok (.invokevirtual 138, 3) := by decide +kernel
theorem dX2_advance_133 : decode cX2_advance 133 = .ok (.iload_n 2, 1) := by decide +kernel
theorem dX2_advance_134 : decode cX2_advance 134 = .ok (.ireturn, 1) := by decide +kernel
theorem dX2_takeBy_0 : decode cX2_takeBy 0 = .ok (.aload_n 0, 1) := by decide +kernel
theorem dX2_takeBy_1 : decode cX2_takeBy 1 = .ok (.iconst 0, 1) := by decide +kernel
theorem dX2_takeBy_2 : decode cX2_takeBy 2 = .ok (.putfield 60, 3) := by decide +kernel
theorem dX2_takeBy_5 : decode cX2_takeBy 5 = .ok (.aload_n 0, 1) := by decide +kernel
theorem dX2_takeBy_6 : decode cX2_takeBy 6 = .ok (.iload_n 1, 1) := by decide +kernel
theorem dX2_takeBy_7 : decode cX2_takeBy 7 = .ok (.aload_n 0, 1) := by decide +kernel
theorem dX2_takeBy_8 : decode cX2_takeBy 8 = .ok (.getfield 57, 3) := by decide +kernel
theorem dX2_takeBy_11 : decode cX2_takeBy 11 = .ok (.invokevirtual 141, 3) := by decide +kernel
theorem dX2_takeBy_14 : decode cX2_takeBy 14 = .ok (.return_, 1) := by decide +kernel
theorem dX2_carryOut_0 : decode cX2_carryOut 0 = .ok (.aload_n 0, 1) := by decide +kernel
theorem dX2_carryOut_1 : decode cX2_carryOut 1 = .ok (.getfield 57, 3) := by decide +kernel
theorem dX2_carryOut_4 : decode cX2_carryOut 4 = .ok (.istore_n 1, 1) := by decide +kernel
theorem dX2_carryOut_5 : decode cX2_carryOut 5 = .ok (.aload_n 0, 1) := by decide +kernel
theorem dX2_carryOut_6 : decode cX2_carryOut 6 = .ok (.iload_n 1, 1) := by decide +kernel
theorem dX2_carryOut_7 : decode cX2_carryOut 7 = .ok (.invokevirtual 100, 3) := by decide +kernel
theorem dX2_carryOut_10 : decode cX2_carryOut 10 = .ok (.istore_n 2, 1) := by decide +kernel
theorem dX2_carryOut_11 : decode cX2_carryOut 11 = .ok (.iload_n 2, 1) := by decide +kernel
theorem dX2_carryOut_12 : decode cX2_carryOut 12 = .ok (.invokestatic 103, 3) := by decide +kernel
theorem dX2_carryOut_15 : decode cX2_carryOut 15 = .ok (.istore_n 3, 1) := by decide +kernel
theorem dX2_carryOut_16 : decode cX2_carryOut 16 = .ok (.iload_n 3, 1) := by decide +kernel
theorem dX2_carryOut_17 : decode cX2_carryOut 17 = .ok (.ifCond .ne 14, 3) := by decide +kernel
theorem dX2_carryOut_20 : decode cX2_carryOut 20 = .ok (.aload_n 0, 1) := by decide +kernel
theorem dX2_carryOut_21 : decode cX2_carryOut 21 = .ok (.iconst 3, 1) := by decide +kernel
theorem dX2_carryOut_22 : decode cX2_carryOut 22 = .ok (.putfield 60, 3) := by decide +kernel
theorem dX2_carryOut_25 : decode cX2_carryOut 25 = .ok (.aload_n 0, 1) := by decide +kernel
theorem dX2_carryOut_26 : decode cX2_carryOut 26 = .ok (.iconst 1, 1) := by decide +kernel
theorem dX2_carryOut_27 : decode cX2_carryOut 27 = .ok (.putfield 122, 3) := by decide +kernel
theorem dX2_carryOut_30 : decode cX2_carryOut 30 = .ok (.return_, 1) := by decide +kernel
theorem dX2_carryOut_31 : decode cX2_carryOut 31 = .ok (.aload_n 0, 1) := by decide +kernel
theorem dX2_carryOut_32 : decode cX2_carryOut 32 = .ok (.iload_n 1, 1) := by decide +kernel
theorem dX2_carryOut_33 : decode cX2_carryOut 33 = .ok (.iconst 1, 1) := by decide +kernel
theorem dX2_carryOut_34 : decode cX2_carryOut 34 = .ok (.iadd, 1) := by decide +kernel
theorem dX2_carryOut_35 : decode cX2_carryOut 35 = .ok (.invokevirtual 100, 3) := by decide +kernel
theorem dX2_carryOut_38 : decode cX2_carryOut 38 = .ok (.istore 4, 2) := by decide +kernel
theorem dX2_carryOut_40 : decode cX2_carryOut 40 = .ok (.aload_n 0, 1) := by decide +kernel
theorem dX2_carryOut_41 : decode cX2_carryOut 41 = .ok (.iload_n 1, 1) := by decide +kernel
theorem dX2_carryOut_42 : decode cX2_carryOut 42 = .ok (.iconst 2, 1) := by decide +kernel
theorem dX2_carryOut_43 : decode cX2_carryOut 43 = .ok (.iadd, 1) := by decide +kernel
theorem dX2_carryOut_44 : decode cX2_carryOut 44 = .ok (.invokevirtual 100, 3) := by decide +kernel
theorem dX2_carryOut_47 : decode cX2_carryOut 47 = .ok (.istore 5, 2) := by decide +kernel
theorem dX2_carryOut_49 : decode cX2_carryOut 49 = .ok (.aload_n 0, 1) := by decide +kernel
theorem dX2_carryOut_50 : decode cX2_carryOut 50 = .ok (.iload_n 1, 1) := by decide +kernel
theorem dX2_carryOut_51 : decode cX2_carryOut 51 = .ok (.iload_n 3, 1) := by decide +kernel
theorem dX2_carryOut_52 : decode cX2_carryOut 52 = .ok (.iadd, 1) := by decide +kernel
theorem dX2_carryOut_53 : decode cX2_carryOut 53 = .ok (.sipush 4095, 3) := by decide +kernel
theorem dX2_carryOut_56 : decode cX2_carryOut 56 = .ok (.iand, 1) := by decide +kernel
theorem dX2_carryOut_57 : decode cX2_carryOut 57 = .ok (.putfield 57, 3) := by decide +kernel
theorem dX2_carryOut_60 : decode cX2_carryOut 60 = .ok (.aload_n 0, 1) := by decide +kernel
theorem dX2_carryOut_61 : decode cX2_carryOut 61 = .ok (.iload_n 3, 1) := by decide +kernel
theorem dX2_carryOut_62 : decode cX2_carryOut 62 = .ok (.putfield 122, 3) := by decide +kernel
theorem dX2_carryOut_65 : decode cX2_carryOut 65 = .ok (.aload_n 0, 1) := by decide +kernel
theorem dX2_carryOut_66 : decode cX2_carryOut 66 = .ok (.dup, 1) := by decide +kernel
theorem dX2_carryOut_67 : decode cX2_carryOut 67 = .ok (.getfield 66, 3) := by decide +kernel
theorem dX2_carryOut_70 : decode cX2_carryOut 70 = .ok (.iconst 1, 1) := by decide +kernel
theorem dX2_carryOut_71 : decode cX2_carryOut 71 = .ok (.iadd, 1) := by decide +kernel
theorem dX2_carryOut_72 : decode cX2_carryOut 72 = .ok (.putfield 66, 3) := by decide +kernel
theorem dX2_carryOut_75 : decode cX2_carryOut 75 = .ok (.aload_n 0, 1) := by decide +kernel
theorem dX2_carryOut_76 : decode cX2_carryOut 76 = .ok (.getfield 15, 3) := by decide +kernel
theorem dX2_carryOut_79 : decode cX2_carryOut 79 = .ok (.iload_n 1, 1) := by decide +kernel
theorem dX2_carryOut_80 : decode cX2_carryOut 80 = .ok (.aload_n 0, 1) := by decide +kernel
theorem dX2_carryOut_81 : decode cX2_carryOut 81 = .ok (.getfield 15, 3) := by decide +kernel
theorem dX2_carryOut_84 : decode cX2_carryOut 84 = .ok (.iload_n 1, 1) := by decide +kernel
theorem dX2_carryOut_85 : decode cX2_carryOut 85 = .ok (.invokestatic 96, 3) := by decide +kernel
theorem dX2_carryOut_88 : decode cX2_carryOut 88 = .ok (.iconst 1, 1) := by decide +kernel
theorem dX2_carryOut_89 : decode cX2_carryOut 89 = .ok (.iadd, 1) := by decide +kernel
theorem dX2_carryOut_90 : decode cX2_carryOut 90 = .ok (.invokestatic 145, 3) := by decide +kernel
theorem dX2_carryOut_93 : decode cX2_carryOut 93 = .ok (.aload_n 0, 1) := by decide +kernel
theorem dX2_carryOut_94 : decode cX2_carryOut 94 = .ok (.getfield 27, 3) := by decide +kernel
theorem dX2_carryOut_97 : decode cX2_carryOut 97 = .ok (.iconst 0, 1) := by decide +kernel
theorem dX2_carryOut_98 : decode cX2_carryOut 98 = .ok (.putfield 149, 3) := by decide +kernel
theorem dX2_carryOut_101 : decode cX2_carryOut 101 = .ok (.iload_n 2, 1) := by decide +kernel
theorem dX2_carryOut_102 : decode cX2_carryOut 102 = .ok (.iconst 3, 1) := by decide +kernel
theorem dX2_carryOut_103 : decode cX2_carryOut 103 = .ok (.ishr, 1) := by decide +kernel
theorem dX2_carryOut_104 : decode cX2_carryOut 104 = .ok (.istore 6, 2) := by decide +kernel
theorem dX2_carryOut_106 : decode cX2_carryOut 106 = .ok (.iload 6, 2) := by decide +kernel
theorem dX2_carryOut_108 : decode cX2_carryOut 108 = .ok (.ifCond .ne 12, 3) := by decide +kernel
theorem dX2_carryOut_111 : decode cX2_carryOut 111 = .ok (.aload_n 0, 1) := by decide +kernel
theorem dX2_carryOut_112 : decode cX2_carryOut 112 = .ok (.iload_n 2, 1) := by decide +kernel
theorem dX2_carryOut_113 : decode cX2_carryOut 113 = .ok (.iload_n 1, 1) := by decide +kernel
theorem dX2_carryOut_114 : decode cX2_carryOut 114 = .ok (.invokevirtual 152, 3) := by decide +kernel
theorem dX2_carryOut_117 : decode cX2_carryOut 117 = .ok (.goto 115, 3) := by decide +kernel
theorem dX2_carryOut_120 : decode cX2_carryOut 120 = .ok (.iload 6, 2) := by decide +kernel
theorem dX2_carryOut_122 : decode cX2_carryOut 122 = .ok (.iconst 1, 1) := by decide +kernel
theorem dX2_carryOut_123 : decode cX2_carryOut 123 = .ok (.if_icmp .ne 14, 3) := by decide +kernel
theorem dX2_carryOut_126 : decode cX2_carryOut 126 = .ok (.aload_n 0, 1) := by decide +kernel
theorem dX2_carryOut_127 : decode cX2_carryOut 127 = .ok (.iload_n 2, 1) := by decide +kernel
theorem dX2_carryOut_128 : decode cX2_carryOut 128 = .ok (.bipush 7, 2) := by decide +kernel
theorem dX2_carryOut_130 : decode cX2_carryOut 130 = .ok (.iand, 1) := by decide +kernel
theorem dX2_carryOut_131 : decode cX2_carryOut 131 = .ok (.invokevirtual 155, 3) := by decide +kernel
theorem dX2_carryOut_134 : decode cX2_carryOut 134 = .ok (.goto 98, 3) := by decide +kernel
theorem dX2_carryOut_137 : decode cX2_carryOut 137 = .ok (.iload 6, 2) := by decide +kernel
theorem dX2_carryOut_139 : decode cX2_carryOut 139 = .ok (.iconst 2, 1) := by decide +kernel
theorem dX2_carryOut_140 : decode cX2_carryOut 140 = .ok (.if_icmp .ne 14, 3) := by decide +kernel
theorem dX2_carryOut_143 : decode cX2_carryOut 143 = .ok (.aload_n 0, 1) := by decide +kernel
theorem dX2_carryOut_144 : decode cX2_carryOut 144 = .ok (.iload_n 2, 1) := by decide +kernel
theorem dX2_carryOut_145 : decode cX2_carryOut 145 = .ok (.bipush 7, 2) := by decide +kernel
theorem dX2_carryOut_147 : decode cX2_carryOut 147 = .ok (.iand, 1) := by decide +kernel
theorem dX2_carryOut_148 : decode cX2_carryOut 148 = .ok (.invokevirtual 158, 3) := by decide +kernel
theorem dX2_carryOut_151 : decode cX2_carryOut 151 = .ok (.goto 81, 3) := by decide +kernel
theorem dX2_carryOut_154 : decode cX2_carryOut 154 = .ok (.iload 6, 2) := by decide +kernel
theorem dX2_carryOut_156 : decode cX2_carryOut 156 = .ok (.iconst 3, 1) := by decide +kernel
theorem dX2_carryOut_157 : decode cX2_carryOut 157 = .ok (.if_icmp .ne 14, 3) := by decide +kernel
theorem dX2_carryOut_160 : decode cX2_carryOut 160 = .ok (.aload_n 0, 1) := by decide +kernel
theorem dX2_carryOut_161 : decode cX2_carryOut 161 = .ok (.iload_n 2, 1) := by decide +kernel
theorem dX2_carryOut_162 : decode cX2_carryOut 162 = .ok (.bipush 7, 2) := by decide +kernel
theorem dX2_carryOut_164 : decode cX2_carryOut 164 = .ok (.iand, 1) := by decide +kernel
theorem dX2_carryOut_165 : decode cX2_carryOut 165 = .ok (.invokevirtual 161, 3) := by decide +kernel
theorem dX2_carryOut_168 : decode cX2_carryOut 168 = .ok (.goto 64, 3) := by decide +kernel
theorem dX2_carryOut_171 : decode cX2_carryOut 171 = .ok (.iload_n 2, 1) := by decide +kernel
theorem dX2_carryOut_172 : decode cX2_carryOut 172 = .ok (.sipush 208, 3) := by decide +kernel
theorem dX2_carryOut_175 : decode cX2_carryOut 175 = .ok (.if_icmp .lt 14, 3) := by decide +kernel
theorem dX2_carryOut_178 : decode cX2_carryOut 178 = .ok (.aload_n 0, 1) := by decide +kernel
theorem dX2_carryOut_179 : decode cX2_carryOut 179 = .ok (.iload_n 2, 1) := by decide +kernel
theorem dX2_carryOut_180 : decode cX2_carryOut 180 = .ok (.iload 4, 2) := by decide +kernel
theorem dX2_carryOut_182 : decode cX2_carryOut 182 = .ok (.iload_n 1, 1) := by decide +kernel
theorem dX2_carryOut_183 : decode cX2_carryOut 183 = .ok (.invokevirtual 164, 3) := by decide +kernel
theorem dX2_carryOut_186 : decode cX2_carryOut 186 = .ok (.goto 46, 3) := by decide +kernel
theorem dX2_carryOut_189 : decode cX2_carryOut 189 = .ok (.iload 6, 2) := by decide +kernel
theorem dX2_carryOut_191 : decode cX2_carryOut 191 = .ok (.bipush 24, 2) := by decide +kernel
theorem dX2_carryOut_193 : decode cX2_carryOut 193 = .ok (.if_icmp .lt 25, 3) := by decide +kernel
theorem dX2_carryOut_196 : decode cX2_carryOut 196 = .ok (.aload_n 0, 1) := by decide +kernel
theorem dX2_carryOut_197 : decode cX2_carryOut 197 = .ok (.iload 6, 2) := by decide +kernel
theorem dX2_carryOut_199 : decode cX2_carryOut 199 = .ok (.aload_n 0, 1) := by decide +kernel
theorem dX2_carryOut_200 : decode cX2_carryOut 200 = .ok (.iload_n 2, 1) := by decide +kernel
theorem dX2_carryOut_201 : decode cX2_carryOut 201 = .ok (.bipush 7, 2) := by decide +kernel
theorem dX2_carryOut_203 : decode cX2_carryOut 203 = .ok (.iand, 1) := by decide +kernel
theorem dX2_carryOut_204 : decode cX2_carryOut 204 = .ok (.iload 4, 2) := by decide +kernel
theorem dX2_carryOut_206 : decode cX2_carryOut 206 = .ok (.iload 5, 2) := by decide +kernel
theorem dX2_carryOut_208 : decode cX2_carryOut 208 = .ok (.invokevirtual 168, 3) := by decide +kernel
theorem dX2_carryOut_211 : decode cX2_carryOut 211 = .ok (.iload_n 1, 1) := by decide +kernel
theorem dX2_carryOut_212 : decode cX2_carryOut 212 = .ok (.invokevirtual 172, 3) := by decide +kernel
theorem dX2_carryOut_215 : decode cX2_carryOut 215 = .ok (.goto 17, 3) := by decide +kernel
theorem dX2_carryOut_218 : decode cX2_carryOut 218 = .ok (.aload_n 0, 1) := by decide +kernel
theorem dX2_carryOut_219 : decode cX2_carryOut 219 = .ok (.iload 6, 2) := by decide +kernel
theorem dX2_carryOut_221 : decode cX2_carryOut 221 = .ok (.iload_n 2, 1) := by decide +kernel
theorem dX2_carryOut_222 : decode cX2_carryOut 222 = .ok (.bipush 7, 2) := by decide +kernel
theorem dX2_carryOut_224 : decode cX2_carryOut 224 = .ok (.iand, 1) := by decide +kernel
theorem dX2_carryOut_225 : decode cX2_carryOut 225 = .ok (.iload 4, 2) := by decide +kernel
theorem dX2_carryOut_227 : decode cX2_carryOut 227 = .ok (.iload 5, 2) := by decide +kernel
theorem dX2_carryOut_229 : decode cX2_carryOut 229 = .ok (.invokevirtual 175, 3) := by decide +kernel
theorem dX2_carryOut_232 : decode cX2_carryOut 232 = .ok (.aload_n 0, 1) := by decide +kernel
theorem dX2_carryOut_233 : decode cX2_carryOut 233 = .ok (.getfield 27, 3) := by decide +kernel
theorem dX2_carryOut_236 : decode cX2_carryOut 236 = .ok (.getfield 149, 3) := by decide +kernel
theorem dX2_carryOut_239 : decode cX2_carryOut 239 = .ok (.ifCond .le 14, 3) := by decide +kernel
theorem dX2_carryOut_242 : decode cX2_carryOut 242 = .ok (.aload_n 0, 1) := by decide +kernel
theorem dX2_carryOut_243 : decode cX2_carryOut 243 = .ok (.aload_n 0, 1) := by decide +kernel
theorem dX2_carryOut_244 : decode cX2_carryOut 244 = .ok (.getfield 27, 3) := by decide +kernel
theorem dX2_carryOut_247 : decode cX2_carryOut 247 = .ok (.getfield 149, 3) := by decide +kernel
theorem dX2_carryOut_250 : decode cX2_carryOut 250 = .ok (.invokevirtual 179, 3) := by decide +kernel
theorem dX2_carryOut_253 : decode cX2_carryOut 253 = .ok (.return_, 1) := by decide +kernel
theorem dX2_control_0 : decode cX2_control 0 = .ok (.iload_n 1, 1) := by decide +kernel
theorem dX2_control_1 : decode cX2_control 1 = .ok (.tableswitch 128 1 7 #[43, 51, 59, 74, 100, 110, 119], 43) := by decide +kernel
theorem dX2_control_44 : decode cX2_control 44 = .ok (.aload_n 0, 1) := by decide +kernel
theorem dX2_control_45 : decode cX2_control 45 = .ok (.iconst 2, 1) := by decide +kernel
theorem dX2_control_46 : decode cX2_control 46 = .ok (.putfield 60, 3) := by decide +kernel
theorem dX2_control_49 : decode cX2_control 49 = .ok (.goto 80, 3) := by decide +kernel
theorem dX2_control_52 : decode cX2_control 52 = .ok (.aload_n 0, 1) := by decide +kernel
theorem dX2_control_53 : decode cX2_control 53 = .ok (.iconst 1, 1) := by decide +kernel
theorem dX2_control_54 : decode cX2_control 54 = .ok (.putfield 60, 3) := by decide +kernel
theorem dX2_control_57 : decode cX2_control 57 = .ok (.goto 72, 3) := by decide +kernel
theorem dX2_control_60 : decode cX2_control 60 = .ok (.aload_n 0, 1) := by decide +kernel
theorem dX2_control_61 : decode cX2_control 61 = .ok (.aload_n 0, 1) := by decide +kernel
theorem dX2_control_62 : decode cX2_control 62 = .ok (.invokevirtual 182, 3) := by decide +kernel
theorem dX2_control_65 : decode cX2_control 65 = .ok (.putfield 57, 3) := by decide +kernel
theorem dX2_control_68 : decode cX2_control 68 = .ok (.aload_n 0, 1) := by decide +kernel
theorem dX2_control_69 : decode cX2_control 69 = .ok (.invokevirtual 185, 3) := by decide +kernel
theorem dX2_control_72 : decode cX2_control 72 = .ok (.goto 57, 3) := by decide +kernel
theorem dX2_control_75 : decode cX2_control 75 = .ok (.aload_n 0, 1) := by decide +kernel
theorem dX2_control_76 : decode cX2_control 76 = .ok (.aload_n 0, 1) := by decide +kernel
theorem dX2_control_77 : decode cX2_control 77 = .ok (.invokevirtual 188, 3) := by decide +kernel
theorem dX2_control_80 : decode cX2_control 80 = .ok (.bipush 31, 2) := by decide +kernel
theorem dX2_control_82 : decode cX2_control 82 = .ok (.iand, 1) := by decide +kernel
theorem dX2_control_83 : decode cX2_control 83 = .ok (.putfield 50, 3) := by decide +kernel
theorem dX2_control_86 : decode cX2_control 86 = .ok (.aload_n 0, 1) := by decide +kernel
theorem dX2_control_87 : decode cX2_control 87 = .ok (.aload_n 0, 1) := by decide +kernel
theorem dX2_control_88 : decode cX2_control 88 = .ok (.invokevirtual 182, 3) := by decide +kernel
theorem dX2_control_91 : decode cX2_control 91 = .ok (.putfield 57, 3) := by decide +kernel
theorem dX2_control_94 : decode cX2_control 94 = .ok (.aload_n 0, 1) := by decide +kernel
theorem dX2_control_95 : decode cX2_control 95 = .ok (.invokevirtual 185, 3) := by decide +kernel
theorem dX2_control_98 : decode cX2_control 98 = .ok (.goto 31, 3) := by decide +kernel
theorem dX2_control_101 : decode cX2_control 101 = .ok (.aload_n 0, 1) := by decide +kernel
theorem dX2_control_102 : decode cX2_control 102 = .ok (.bipush 6, 2) := by decide +kernel
theorem dX2_control_104 : decode cX2_control 104 = .ok (.iload_n 2, 1) := by decide +kernel
theorem dX2_control_105 : decode cX2_control 105 = .ok (.invokevirtual 141, 3) := by decide +kernel
theorem dX2_control_108 : decode cX2_control 108 = .ok (.goto 21, 3) := by decide +kernel
theorem dX2_control_111 : decode cX2_control 111 = .ok (.aload_n 0, 1) := by decide +kernel
theorem dX2_control_112 : decode cX2_control 112 = .ok (.iconst 1, 1) := by decide +kernel
theorem dX2_control_113 : decode cX2_control 113 = .ok (.iconst 0, 1) := by decide +kernel
theorem dX2_control_114 : decode cX2_control 114 = .ok (.invokevirtual 191, 3) := by decide +kernel
theorem dX2_control_117 : decode cX2_control 117 = .ok (.goto 12, 3) := by decide +kernel
theorem dX2_control_120 : decode cX2_control 120 = .ok (.aload_n 0, 1) := by decide +kernel
theorem dX2_control_121 : decode cX2_control 121 = .ok (.iconst 1, 1) := by decide +kernel
theorem dX2_control_122 : decode cX2_control 122 = .ok (.iconst 1, 1) := by decide +kernel
theorem dX2_control_123 : decode cX2_control 123 = .ok (.invokevirtual 191, 3) := by decide +kernel
theorem dX2_control_126 : decode cX2_control 126 = .ok (.goto 3, 3) := by decide +kernel
theorem dX2_control_129 : decode cX2_control 129 = .ok (.return_, 1) := by decide +kernel
theorem dX2_transfer_0 : decode cX2_transfer 0 = .ok (.iload_n 1, 1) := by decide +kernel
theorem dX2_transfer_1 : decode cX2_transfer 1 = .ok (.tableswitch 142 0 6 #[43, 52, 61, 76, 91, 106, 117], 43) := by decide +kernel
theorem dX2_transfer_44 : decode cX2_transfer 44 = .ok (.aload_n 0, 1) := by decide +kernel
theorem dX2_transfer_45 : decode cX2_transfer 45 = .ok (.iconst 4, 1) := by decide +kernel
theorem dX2_transfer_46 : decode cX2_transfer 46 = .ok (.iconst 0, 1) := by decide +kernel
theorem dX2_transfer_47 : decode cX2_transfer 47 = .ok (.invokevirtual 191, 3) := by decide +kernel
theorem dX2_transfer_50 : decode cX2_transfer 50 = .ok (.goto 97, 3) := by decide +kernel
theorem dX2_transfer_53 : decode cX2_transfer 53 = .ok (.aload_n 0, 1) := by decide +kernel
theorem dX2_transfer_54 : decode cX2_transfer 54 = .ok (.iconst 4, 1) := by decide +kernel
theorem dX2_transfer_55 : decode cX2_transfer 55 = .ok (.iconst 1, 1) := by decide +kernel
theorem dX2_transfer_56 : decode cX2_transfer 56 = .ok (.invokevirtual 191, 3) := by decide +kernel
theorem dX2_transfer_59 : decode cX2_transfer 59 = .ok (.goto 88, 3) := by decide +kernel
theorem dX2_transfer_62 : decode cX2_transfer 62 = .ok (.aload_n 0, 1) := by decide +kernel
theorem dX2_transfer_63 : decode cX2_transfer 63 = .ok (.aload_n 0, 1) := by decide +kernel
theorem dX2_transfer_64 : decode cX2_transfer 64 = .ok (.aload_n 0, 1) := by decide +kernel
theorem dX2_transfer_65 : decode cX2_transfer 65 = .ok (.getfield 40, 3) := by decide +kernel
theorem dX2_transfer_68 : decode cX2_transfer 68 = .ok (.invokevirtual 195, 3) := by decide +kernel
theorem dX2_transfer_71 : decode cX2_transfer 71 = .ok (.putfield 44, 3) := by decide +kernel
theorem dX2_transfer_74 : decode cX2_transfer 74 = .ok (.goto 73, 3) := by decide +kernel
theorem dX2_transfer_77 : decode cX2_transfer 77 = .ok (.aload_n 0, 1) := by decide +kernel
theorem dX2_transfer_78 : decode cX2_transfer 78 = .ok (.aload_n 0, 1) := by decide +kernel
theorem dX2_transfer_79 : decode cX2_transfer 79 = .ok (.aload_n 0, 1) := by decide +kernel
theorem dX2_transfer_80 : decode cX2_transfer 80 = .ok (.getfield 44, 3) := by decide +kernel
theorem dX2_transfer_83 : decode cX2_transfer 83 = .ok (.invokevirtual 195, 3) := by decide +kernel
theorem dX2_transfer_86 : decode cX2_transfer 86 = .ok (.putfield 40, 3) := by decide +kernel
theorem dX2_transfer_89 : decode cX2_transfer 89 = .ok (.goto 58, 3) := by decide +kernel
theorem dX2_transfer_92 : decode cX2_transfer 92 = .ok (.aload_n 0, 1) := by decide +kernel
theorem dX2_transfer_93 : decode cX2_transfer 93 = .ok (.aload_n 0, 1) := by decide +kernel
theorem dX2_transfer_94 : decode cX2_transfer 94 = .ok (.aload_n 0, 1) := by decide +kernel
theorem dX2_transfer_95 : decode cX2_transfer 95 = .ok (.getfield 47, 3) := by decide +kernel
theorem dX2_transfer_98 : decode cX2_transfer 98 = .ok (.invokevirtual 195, 3) := by decide +kernel
theorem dX2_transfer_101 : decode cX2_transfer 101 = .ok (.putfield 44, 3) := by decide +kernel
theorem dX2_transfer_104 : decode cX2_transfer 104 = .ok (.goto 43, 3) := by decide +kernel
theorem dX2_transfer_107 : decode cX2_transfer 107 = .ok (.aload_n 0, 1) := by decide +kernel
theorem dX2_transfer_108 : decode cX2_transfer 108 = .ok (.aload_n 0, 1) := by decide +kernel
theorem dX2_transfer_109 : decode cX2_transfer 109 = .ok (.getfield 44, 3) := by decide +kernel
theorem dX2_transfer_112 : decode cX2_transfer 112 = .ok (.putfield 47, 3) := by decide +kernel
theorem dX2_transfer_115 : decode cX2_transfer 115 = .ok (.goto 32, 3) := by decide +kernel
theorem dX2_transfer_118 : decode cX2_transfer 118 = .ok (.aload_n 0, 1) := by decide +kernel
theorem dX2_transfer_119 : decode cX2_transfer 119 = .ok (.getfield 40, 3) := by decide +kernel
theorem dX2_transfer_122 : decode cX2_transfer 122 = .ok (.istore_n 2, 1) := by decide +kernel
theorem dX2_transfer_123 : decode cX2_transfer 123 = .ok (.aload_n 0, 1) := by decide +kernel
theorem dX2_transfer_124 : decode cX2_transfer 124 = .ok (.aload_n 0, 1) := by decide +kernel
theorem dX2_transfer_125 : decode cX2_transfer 125 = .ok (.aload_n 0, 1) := by decide +kernel
theorem dX2_transfer_126 : decode cX2_transfer 126 = .ok (.getfield 44, 3) := by decide +kernel
theorem dX2_transfer_129 : decode cX2_transfer 129 = .ok (.invokevirtual 195, 3) := by decide +kernel
theorem dX2_transfer_132 : decode cX2_transfer 132 = .ok (.putfield 40, 3) := by decide +kernel
theorem dX2_transfer_135 : decode cX2_transfer 135 = .ok (.aload_n 0, 1) := by decide +kernel
theorem dX2_transfer_136 : decode cX2_transfer 136 = .ok (.iload_n 2, 1) := by decide +kernel
theorem dX2_transfer_137 : decode cX2_transfer 137 = .ok (.putfield 44, 3) := by decide +kernel
theorem dX2_transfer_140 : decode cX2_transfer 140 = .ok (.goto 7, 3) := by decide +kernel
theorem dX2_transfer_143 : decode cX2_transfer 143 = .ok (.aload_n 0, 1) := by decide +kernel
theorem dX2_transfer_144 : decode cX2_transfer 144 = .ok (.invokevirtual 198, 3) := by decide +kernel
theorem dX2_transfer_147 : decode cX2_transfer 147 = .ok (.return_, 1) := by decide +kernel
theorem dX2_stack_0 : decode cX2_stack 0 = .ok (.iload_n 1, 1) := by decide +kernel
theorem dX2_stack_1 : decode cX2_stack 1 = .ok (.tableswitch 141 0 6 #[43, 54, 69, 80, 95, 106, 120], 43) := by decide +kernel
theorem dX2_stack_44 : decode cX2_stack 44 = .ok (.aload_n 0, 1) := by decide +kernel
theorem dX2_stack_45 : decode cX2_stack 45 = .ok (.aload_n 0, 1) := by decide +kernel
theorem dX2_stack_46 : decode cX2_stack 46 = .ok (.getfield 40, 3) := by decide +kernel
theorem dX2_stack_49 : decode cX2_stack 49 = .ok (.invokevirtual 201, 3) := by decide +kernel
theorem dX2_stack_52 : decode cX2_stack 52 = .ok (.goto 108, 3) := by decide +kernel
theorem dX2_stack_55 : decode cX2_stack 55 = .ok (.aload_n 0, 1) := by decide +kernel
theorem dX2_stack_56 : decode cX2_stack 56 = .ok (.aload_n 0, 1) := by decide +kernel
theorem dX2_stack_57 : decode cX2_stack 57 = .ok (.aload_n 0, 1) := by decide +kernel
theorem dX2_stack_58 : decode cX2_stack 58 = .ok (.invokevirtual 188, 3) := by decide +kernel
theorem dX2_stack_61 : decode cX2_stack 61 = .ok (.invokevirtual 195, 3) := by decide +kernel
theorem dX2_stack_64 : decode cX2_stack 64 = .ok (.putfield 40, 3) := by decide +kernel
theorem dX2_stack_67 : decode cX2_stack 67 = .ok (.goto 93, 3) := by decide +kernel
theorem dX2_stack_70 : decode cX2_stack 70 = .ok (.aload_n 0, 1) := by decide +kernel
theorem dX2_stack_71 : decode cX2_stack 71 = .ok (.aload_n 0, 1) := by decide +kernel
theorem dX2_stack_72 : decode cX2_stack 72 = .ok (.getfield 44, 3) := by decide +kernel
theorem dX2_stack_75 : decode cX2_stack 75 = .ok (.invokevirtual 201, 3) := by decide +kernel
theorem dX2_stack_78 : decode cX2_stack 78 = .ok (.goto 82, 3) := by decide +kernel
theorem dX2_stack_81 : decode cX2_stack 81 = .ok (.aload_n 0, 1) := by decide +kernel
theorem dX2_stack_82 : decode cX2_stack 82 = .ok (.aload_n 0, 1) := by decide +kernel
theorem dX2_stack_83 : decode cX2_stack 83 = .ok (.aload_n 0, 1) := by decide +kernel
theorem dX2_stack_84 : decode cX2_stack 84 = .ok (.invokevirtual 188, 3) := by decide +kernel
theorem dX2_stack_87 : decode cX2_stack 87 = .ok (.invokevirtual 195, 3) := by decide +kernel
theorem dX2_stack_90 : decode cX2_stack 90 = .ok (.putfield 44, 3) := by decide +kernel
theorem dX2_stack_93 : decode cX2_stack 93 = .ok (.goto 67, 3) := by decide +kernel
theorem dX2_stack_96 : decode cX2_stack 96 = .ok (.aload_n 0, 1) := by decide +kernel
theorem dX2_stack_97 : decode cX2_stack 97 = .ok (.aload_n 0, 1) := by decide +kernel
theorem dX2_stack_98 : decode cX2_stack 98 = .ok (.getfield 50, 3) := by decide +kernel
theorem dX2_stack_101 : decode cX2_stack 101 = .ok (.invokevirtual 201, 3) := by decide +kernel
theorem dX2_stack_104 : decode cX2_stack 104 = .ok (.goto 56, 3) := by decide +kernel
theorem dX2_stack_107 : decode cX2_stack 107 = .ok (.aload_n 0, 1) := by decide +kernel
theorem dX2_stack_108 : decode cX2_stack 108 = .ok (.aload_n 0, 1) := by decide +kernel
theorem dX2_stack_109 : decode cX2_stack 109 = .ok (.invokevirtual 188, 3) := by decide +kernel
theorem dX2_stack_112 : decode cX2_stack 112 = .ok (.bipush 31, 2) := by decide +kernel
theorem dX2_stack_114 : decode cX2_stack 114 = .ok (.iand, 1) := by decide +kernel
theorem dX2_stack_115 : decode cX2_stack 115 = .ok (.putfield 50, 3) := by decide +kernel
theorem dX2_stack_118 : decode cX2_stack 118 = .ok (.goto 42, 3) := by decide +kernel
theorem dX2_stack_121 : decode cX2_stack 121 = .ok (.aload_n 0, 1) := by decide +kernel
theorem dX2_stack_122 : decode cX2_stack 122 = .ok (.aload_n 0, 1) := by decide +kernel
theorem dX2_stack_123 : decode cX2_stack 123 = .ok (.aload_n 0, 1) := by decide +kernel
theorem dX2_stack_124 : decode cX2_stack 124 = .ok (.getfield 44, 3) := by decide +kernel
theorem dX2_stack_127 : decode cX2_stack 127 = .ok (.iconst 1, 1) := by decide +kernel
theorem dX2_stack_128 : decode cX2_stack 128 = .ok (.iadd, 1) := by decide +kernel
theorem dX2_stack_129 : decode cX2_stack 129 = .ok (.sipush 255, 3) := by decide +kernel
theorem dX2_stack_132 : decode cX2_stack 132 = .ok (.iand, 1) := by decide +kernel
theorem dX2_stack_133 : decode cX2_stack 133 = .ok (.invokevirtual 195, 3) := by decide +kernel
theorem dX2_stack_136 : decode cX2_stack 136 = .ok (.putfield 44, 3) := by decide +kernel
theorem dX2_stack_139 : decode cX2_stack 139 = .ok (.goto 21, 3) := by decide +kernel
theorem dX2_stack_142 : decode cX2_stack 142 = .ok (.aload_n 0, 1) := by decide +kernel
theorem dX2_stack_143 : decode cX2_stack 143 = .ok (.aload_n 0, 1) := by decide +kernel
theorem dX2_stack_144 : decode cX2_stack 144 = .ok (.aload_n 0, 1) := by decide +kernel
theorem dX2_stack_145 : decode cX2_stack 145 = .ok (.getfield 44, 3) := by decide +kernel
theorem dX2_stack_148 : decode cX2_stack 148 = .ok (.iconst 1, 1) := by decide +kernel
theorem dX2_stack_149 : decode cX2_stack 149 = .ok (.isub, 1) := by decide +kernel
theorem dX2_stack_150 : decode cX2_stack 150 = .ok (.sipush 255, 3) := by decide +kernel
theorem dX2_stack_153 : decode cX2_stack 153 = .ok (.iand, 1) := by decide +kernel
theorem dX2_stack_154 : decode cX2_stack 154 = .ok (.invokevirtual 195, 3) := by decide +kernel
theorem dX2_stack_157 : decode cX2_stack 157 = .ok (.putfield 44, 3) := by decide +kernel
theorem dX2_stack_160 : decode cX2_stack 160 = .ok (.return_, 1) := by decide +kernel
theorem dX2_onA_0 : decode cX2_onA 0 = .ok (.iload_n 1, 1) := by decide +kernel
theorem dX2_onA_1 : decode cX2_onA 1 = .ok (.tableswitch 109 4 7 #[31, 60, 83, 102], 31) := by decide +kernel
theorem dX2_onA_32 : decode cX2_onA 32 = .ok (.aload_n 0, 1) := by decide +kernel
theorem dX2_onA_33 : decode cX2_onA 33 = .ok (.aload_n 0, 1) := by decide +kernel
theorem dX2_onA_34 : decode cX2_onA 34 = .ok (.aload_n 0, 1) := by decide +kernel
theorem dX2_onA_35 : decode cX2_onA 35 = .ok (.getfield 40, 3) := by decide +kernel
theorem dX2_onA_38 : decode cX2_onA 38 = .ok (.bipush 16, 2) := by decide +kernel
theorem dX2_onA_40 : decode cX2_onA 40 = .ok (.idiv, 1) := by decide +kernel
theorem dX2_onA_41 : decode cX2_onA 41 = .ok (.aload_n 0, 1) := by decide +kernel
theorem dX2_onA_42 : decode cX2_onA 42 = .ok (.getfield 40, 3) := by decide +kernel
theorem dX2_onA_45 : decode cX2_onA 45 = .ok (.bipush 16, 2) := by decide +kernel
theorem dX2_onA_47 : decode cX2_onA 47 = .ok (.irem, 1) := by decide +kernel
theorem dX2_onA_48 : decode cX2_onA 48 = .ok (.bipush 16, 2) := by decide +kernel
theorem dX2_onA_50 : decode cX2_onA 50 = .ok (.imul, 1) := by decide +kernel
theorem dX2_onA_51 : decode cX2_onA 51 = .ok (.iadd, 1) := by decide +kernel
theorem dX2_onA_52 : decode cX2_onA 52 = .ok (.invokevirtual 195, 3) := by decide +kernel
theorem dX2_onA_55 : decode cX2_onA 55 = .ok (.putfield 40, 3) := by decide +kernel
theorem dX2_onA_58 : decode cX2_onA 58 = .ok (.goto 65, 3) := by decide +kernel
theorem dX2_onA_61 : decode cX2_onA 61 = .ok (.aload_n 0, 1) := by decide +kernel
theorem dX2_onA_62 : decode cX2_onA 62 = .ok (.aload_n 0, 1) := by decide +kernel
theorem dX2_onA_63 : decode cX2_onA 63 = .ok (.sipush 256, 3) := by decide +kernel
theorem dX2_onA_66 : decode cX2_onA 66 = .ok (.aload_n 0, 1) := by decide +kernel
theorem dX2_onA_67 : decode cX2_onA 67 = .ok (.getfield 40, 3) := by decide +kernel
theorem dX2_onA_70 : decode cX2_onA 70 = .ok (.isub, 1) := by decide +kernel
theorem dX2_onA_71 : decode cX2_onA 71 = .ok (.sipush 255, 3) := by decide +kernel
theorem dX2_onA_74 : decode cX2_onA 74 = .ok (.iand, 1) := by decide +kernel
theorem dX2_onA_75 : decode cX2_onA 75 = .ok (.invokevirtual 195, 3) := by decide +kernel
theorem dX2_onA_78 : decode cX2_onA 78 = .ok (.putfield 40, 3) := by decide +kernel
theorem dX2_onA_81 : decode cX2_onA 81 = .ok (.goto 42, 3) := by decide +kernel
theorem dX2_onA_84 : decode cX2_onA 84 = .ok (.aload_n 0, 1) := by decide +kernel
theorem dX2_onA_85 : decode cX2_onA 85 = .ok (.aload_n 0, 1) := by decide +kernel
theorem dX2_onA_86 : decode cX2_onA 86 = .ok (.sipush 255, 3) := by decide +kernel
theorem dX2_onA_89 : decode cX2_onA 89 = .ok (.aload_n 0, 1) := by decide +kernel
theorem dX2_onA_90 : decode cX2_onA 90 = .ok (.getfield 40, 3) := by decide +kernel
theorem dX2_onA_93 : decode cX2_onA 93 = .ok (.isub, 1) := by decide +kernel
theorem dX2_onA_94 : decode cX2_onA 94 = .ok (.invokevirtual 195, 3) := by decide +kernel
theorem dX2_onA_97 : decode cX2_onA 97 = .ok (.putfield 40, 3) := by decide +kernel
theorem dX2_onA_100 : decode cX2_onA 100 = .ok (.goto 23, 3) := by decide +kernel
theorem dX2_onA_103 : decode cX2_onA 103 = .ok (.aload_n 0, 1) := by decide +kernel
theorem dX2_onA_104 : decode cX2_onA 104 = .ok (.invokevirtual 204, 3) := by decide +kernel
theorem dX2_onA_107 : decode cX2_onA 107 = .ok (.goto 16, 3) := by decide +kernel
theorem dX2_onA_110 : decode cX2_onA 110 = .ok (.aload_n 0, 1) := by decide +kernel
theorem dX2_onA_111 : decode cX2_onA 111 = .ok (.aload_n 0, 1) := by decide +kernel
theorem dX2_onA_112 : decode cX2_onA 112 = .ok (.iload_n 1, 1) := by decide +kernel
theorem dX2_onA_113 : decode cX2_onA 113 = .ok (.aload_n 0, 1) := by decide +kernel
theorem dX2_onA_114 : decode cX2_onA 114 = .ok (.getfield 40, 3) := by decide +kernel
theorem dX2_onA_117 : decode cX2_onA 117 = .ok (.invokevirtual 207, 3) := by decide +kernel
theorem dX2_onA_120 : decode cX2_onA 120 = .ok (.putfield 40, 3) := by decide +kernel
theorem dX2_onA_123 : decode cX2_onA 123 = .ok (.return_, 1) := by decide +kernel
theorem dX2_multiply_0 : decode cX2_multiply 0 = .ok (.aload_n 0, 1) := by decide +kernel
theorem dX2_multiply_1 : decode cX2_multiply 1 = .ok (.getfield 40, 3) := by decide +kernel
theorem dX2_multiply_4 : decode cX2_multiply 4 = .ok (.aload_n 0, 1) := by decide +kernel
theorem dX2_multiply_5 : decode cX2_multiply 5 = .ok (.getfield 44, 3) := by decide +kernel
theorem dX2_multiply_8 : decode cX2_multiply 8 = .ok (.imul, 1) := by decide +kernel
theorem dX2_multiply_9 : decode cX2_multiply 9 = .ok (.istore_n 1, 1) := by decide +kernel
theorem dX2_multiply_10 : decode cX2_multiply 10 = .ok (.aload_n 0, 1) := by decide +kernel
theorem dX2_multiply_11 : decode cX2_multiply 11 = .ok (.dup, 1) := by decide +kernel
theorem dX2_multiply_12 : decode cX2_multiply 12 = .ok (.getfield 122, 3) := by decide +kernel
theorem dX2_multiply_15 : decode cX2_multiply 15 = .ok (.bipush 8, 2) := by decide +kernel
theorem dX2_multiply_17 : decode cX2_multiply 17 = .ok (.iadd, 1) := by decide +kernel
theorem dX2_multiply_18 : decode cX2_multiply 18 = .ok (.putfield 122, 3) := by decide +kernel
theorem dX2_multiply_21 : decode cX2_multiply 21 = .ok (.aload_n 0, 1) := by decide +kernel
theorem dX2_multiply_22 : decode cX2_multiply 22 = .ok (.iload_n 1, 1) := by decide +kernel
theorem dX2_multiply_23 : decode cX2_multiply 23 = .ok (.sipush 256, 3) := by decide +kernel
theorem dX2_multiply_26 : decode cX2_multiply 26 = .ok (.idiv, 1) := by decide +kernel
theorem dX2_multiply_27 : decode cX2_multiply 27 = .ok (.putfield 44, 3) := by decide +kernel
theorem dX2_multiply_30 : decode cX2_multiply 30 = .ok (.aload_n 0, 1) := by decide +kernel
theorem dX2_multiply_31 : decode cX2_multiply 31 = .ok (.iconst 1, 1) := by decide +kernel
theorem dX2_multiply_32 : decode cX2_multiply 32 = .ok (.aload_n 0, 1) := by decide +kernel
theorem dX2_multiply_33 : decode cX2_multiply 33 = .ok (.getfield 44, 3) := by decide +kernel
theorem dX2_multiply_36 : decode cX2_multiply 36 = .ok (.ifCond .eq 7, 3) := by decide +kernel
theorem dX2_multiply_39 : decode cX2_multiply 39 = .ok (.iconst 1, 1) := by decide +kernel
theorem dX2_multiply_40 : decode cX2_multiply 40 = .ok (.goto 4, 3) := by decide +kernel
theorem dX2_multiply_43 : decode cX2_multiply 43 = .ok (.iconst 0, 1) := by decide +kernel
theorem dX2_multiply_44 : decode cX2_multiply 44 = .ok (.invokevirtual 191, 3) := by decide +kernel
theorem dX2_multiply_47 : decode cX2_multiply 47 = .ok (.aload_n 0, 1) := by decide +kernel
theorem dX2_multiply_48 : decode cX2_multiply 48 = .ok (.aload_n 0, 1) := by decide +kernel
theorem dX2_multiply_49 : decode cX2_multiply 49 = .ok (.iload_n 1, 1) := by decide +kernel
theorem dX2_multiply_50 : decode cX2_multiply 50 = .ok (.sipush 256, 3) := by decide +kernel
theorem dX2_multiply_53 : decode cX2_multiply 53 = .ok (.irem, 1) := by decide +kernel
theorem dX2_multiply_54 : decode cX2_multiply 54 = .ok (.invokevirtual 195, 3) := by decide +kernel
theorem dX2_multiply_57 : decode cX2_multiply 57 = .ok (.putfield 40, 3) := by decide +kernel
theorem dX2_multiply_60 : decode cX2_multiply 60 = .ok (.return_, 1) := by decide +kernel
theorem dX2_divide_0 : decode cX2_divide 0 = .ok (.aload_n 0, 1) := by decide +kernel
theorem dX2_divide_1 : decode cX2_divide 1 = .ok (.dup, 1) := by decide +kernel
theorem dX2_divide_2 : decode cX2_divide 2 = .ok (.getfield 122, 3) := by decide +kernel
theorem dX2_divide_5 : decode cX2_divide 5 = .ok (.bipush 8, 2) := by decide +kernel
theorem dX2_divide_7 : decode cX2_divide 7 = .ok (.iadd, 1) := by decide +kernel
theorem dX2_divide_8 : decode cX2_divide 8 = .ok (.putfield 122, 3) := by decide +kernel
theorem dX2_divide_11 : decode cX2_divide 11 = .ok (.aload_n 0, 1) := by decide +kernel
theorem dX2_divide_12 : decode cX2_divide 12 = .ok (.bipush 8, 2) := by decide +kernel
theorem dX2_divide_14 : decode cX2_divide 14 = .ok (.aload_n 0, 1) := by decide +kernel
theorem dX2_divide_15 : decode cX2_divide 15 = .ok (.getfield 44, 3) := by decide +kernel
theorem dX2_divide_18 : decode cX2_divide 18 = .ok (.ifCond .ne 7, 3) := by decide +kernel
theorem dX2_divide_21 : decode cX2_divide 21 = .ok (.iconst 1, 1) := by decide +kernel
theorem dX2_divide_22 : decode cX2_divide 22 = .ok (.goto 4, 3) := by decide +kernel
theorem dX2_divide_25 : decode cX2_divide 25 = .ok (.iconst 0, 1) := by decide +kernel
theorem dX2_divide_26 : decode cX2_divide 26 = .ok (.invokevirtual 191, 3) := by decide +kernel
theorem dX2_divide_29 : decode cX2_divide 29 = .ok (.aload_n 0, 1) := by decide +kernel
theorem dX2_divide_30 : decode cX2_divide 30 = .ok (.getfield 44, 3) := by decide +kernel
theorem dX2_divide_33 : decode cX2_divide 33 = .ok (.ifCond .ne 4, 3) := by decide +kernel
theorem dX2_divide_36 : decode cX2_divide 36 = .ok (.return_, 1) := by decide +kernel
theorem dX2_divide_37 : decode cX2_divide 37 = .ok (.aload_n 0, 1) := by decide +kernel
theorem dX2_divide_38 : decode cX2_divide 38 = .ok (.getfield 40, 3) := by decide +kernel
theorem dX2_divide_41 : decode cX2_divide 41 = .ok (.aload_n 0, 1) := by decide +kernel
theorem dX2_divide_42 : decode cX2_divide 42 = .ok (.getfield 44, 3) := by decide +kernel
theorem dX2_divide_45 : decode cX2_divide 45 = .ok (.irem, 1) := by decide +kernel
theorem dX2_divide_46 : decode cX2_divide 46 = .ok (.istore_n 1, 1) := by decide +kernel
theorem dX2_divide_47 : decode cX2_divide 47 = .ok (.aload_n 0, 1) := by decide +kernel
theorem dX2_divide_48 : decode cX2_divide 48 = .ok (.aload_n 0, 1) := by decide +kernel
theorem dX2_divide_49 : decode cX2_divide 49 = .ok (.aload_n 0, 1) := by decide +kernel
theorem dX2_divide_50 : decode cX2_divide 50 = .ok (.getfield 40, 3) := by decide +kernel
theorem dX2_divide_53 : decode cX2_divide 53 = .ok (.aload_n 0, 1) := by decide +kernel
theorem dX2_divide_54 : decode cX2_divide 54 = .ok (.getfield 44, 3) := by decide +kernel
theorem dX2_divide_57 : decode cX2_divide 57 = .ok (.idiv, 1) := by decide +kernel
theorem dX2_divide_58 : decode cX2_divide 58 = .ok (.invokevirtual 195, 3) := by decide +kernel
theorem dX2_divide_61 : decode cX2_divide 61 = .ok (.putfield 40, 3) := by decide +kernel
theorem dX2_divide_64 : decode cX2_divide 64 = .ok (.aload_n 0, 1) := by decide +kernel
theorem dX2_divide_65 : decode cX2_divide 65 = .ok (.iload_n 1, 1) := by decide +kernel
theorem dX2_divide_66 : decode cX2_divide 66 = .ok (.putfield 44, 3) := by decide +kernel
theorem dX2_divide_69 : decode cX2_divide 69 = .ok (.return_, 1) := by decide +kernel
theorem dX2_branch_0 : decode cX2_branch 0 = .ok (.iload_n 1, 1) := by decide +kernel
theorem dX2_branch_1 : decode cX2_branch 1 = .ok (.sipush 216, 3) := by decide +kernel
theorem dX2_branch_4 : decode cX2_branch 4 = .ok (.if_icmp .ge 49, 3) := by decide +kernel
theorem dX2_branch_7 : decode cX2_branch 7 = .ok (.aload_n 0, 1) := by decide +kernel
theorem dX2_branch_8 : decode cX2_branch 8 = .ok (.getfield 50, 3) := by decide +kernel
theorem dX2_branch_11 : decode cX2_branch 11 = .ok (.getstatic 210, 3) := by decide +kernel
theorem dX2_branch_14 : decode cX2_branch 14 = .ok (.iload_n 1, 1) := by decide +kernel
theorem dX2_branch_15 : decode cX2_branch 15 = .ok (.sipush 208, 3) := by decide +kernel
theorem dX2_branch_18 : decode cX2_branch 18 = .ok (.isub, 1) := by decide +kernel
theorem dX2_branch_19 : decode cX2_branch 19 = .ok (.iconst 1, 1) := by decide +kernel
theorem dX2_branch_20 : decode cX2_branch 20 = .ok (.ishr, 1) := by decide +kernel
theorem dX2_branch_21 : decode cX2_branch 21 = .ok (.invokestatic 96, 3) := by decide +kernel
theorem dX2_branch_24 : decode cX2_branch 24 = .ok (.iand, 1) := by decide +kernel
theorem dX2_branch_25 : decode cX2_branch 25 = .ok (.ifCond .eq 7, 3) := by decide +kernel
theorem dX2_branch_28 : decode cX2_branch 28 = .ok (.iconst 1, 1) := by decide +kernel
theorem dX2_branch_29 : decode cX2_branch 29 = .ok (.goto 4, 3) := by decide +kernel
theorem dX2_branch_32 : decode cX2_branch 32 = .ok (.iconst 0, 1) := by decide +kernel
theorem dX2_branch_33 : decode cX2_branch 33 = .ok (.istore 4, 2) := by decide +kernel
theorem dX2_branch_35 : decode cX2_branch 35 = .ok (.iload 4, 2) := by decide +kernel
theorem dX2_branch_37 : decode cX2_branch 37 = .ok (.iload_n 1, 1) := by decide +kernel
theorem dX2_branch_38 : decode cX2_branch 38 = .ok (.iconst 1, 1) := by decide +kernel
theorem dX2_branch_39 : decode cX2_branch 39 = .ok (.iand, 1) := by decide +kernel
theorem dX2_branch_40 : decode cX2_branch 40 = .ok (.iconst 1, 1) := by decide +kernel
theorem dX2_branch_41 : decode cX2_branch 41 = .ok (.if_icmp .ne 7, 3) := by decide +kernel
theorem dX2_branch_44 : decode cX2_branch 44 = .ok (.iconst 1, 1) := by decide +kernel
theorem dX2_branch_45 : decode cX2_branch 45 = .ok (.goto 4, 3) := by decide +kernel
theorem dX2_branch_48 : decode cX2_branch 48 = .ok (.iconst 0, 1) := by decide +kernel
theorem dX2_branch_49 : decode cX2_branch 49 = .ok (.if_icmp .ne 4, 3) := by decide +kernel
theorem dX2_branch_52 : decode cX2_branch 52 = .ok (.return_, 1) := by decide +kernel
theorem dX2_branch_53 : decode cX2_branch 53 = .ok (.iload_n 1, 1) := by decide +kernel
theorem dX2_branch_54 : decode cX2_branch 54 = .ok (.sipush 217, 3) := by decide +kernel
theorem dX2_branch_57 : decode cX2_branch 57 = .ok (.if_icmp .ne 16, 3) := by decide +kernel
theorem dX2_branch_60 : decode cX2_branch 60 = .ok (.aload_n 0, 1) := by decide +kernel
theorem dX2_branch_61 : decode cX2_branch 61 = .ok (.iload_n 3, 1) := by decide +kernel
theorem dX2_branch_62 : decode cX2_branch 62 = .ok (.invokevirtual 213, 3) := by decide +kernel
theorem dX2_branch_65 : decode cX2_branch 65 = .ok (.aload_n 0, 1) := by decide +kernel
theorem dX2_branch_66 : decode cX2_branch 66 = .ok (.aload_n 0, 1) := by decide +kernel
theorem dX2_branch_67 : decode cX2_branch 67 = .ok (.getfield 57, 3) := by decide +kernel
theorem dX2_branch_70 : decode cX2_branch 70 = .ok (.invokevirtual 216, 3) := by decide +kernel
theorem dX2_branch_73 : decode cX2_branch 73 = .ok (.aload_n 0, 1) := by decide +kernel
theorem dX2_branch_74 : decode cX2_branch 74 = .ok (.dup, 1) := by decide +kernel
theorem dX2_branch_75 : decode cX2_branch 75 = .ok (.getfield 122, 3) := by decide +kernel
theorem dX2_branch_78 : decode cX2_branch 78 = .ok (.iconst 1, 1) := by decide +kernel
theorem dX2_branch_79 : decode cX2_branch 79 = .ok (.iadd, 1) := by decide +kernel
theorem dX2_branch_80 : decode cX2_branch 80 = .ok (.putfield 122, 3) := by decide +kernel
theorem dX2_branch_83 : decode cX2_branch 83 = .ok (.aload_n 0, 1) := by decide +kernel
theorem dX2_branch_84 : decode cX2_branch 84 = .ok (.aload_n 0, 1) := by decide +kernel
theorem dX2_branch_85 : decode cX2_branch 85 = .ok (.getfield 57, 3) := by decide +kernel
theorem dX2_branch_88 : decode cX2_branch 88 = .ok (.iload_n 2, 1) := by decide +kernel
theorem dX2_branch_89 : decode cX2_branch 89 = .ok (.invokestatic 106, 3) := by decide +kernel
theorem dX2_branch_92 : decode cX2_branch 92 = .ok (.iadd, 1) := by decide +kernel
theorem dX2_branch_93 : decode cX2_branch 93 = .ok (.sipush 4095, 3) := by decide +kernel
theorem dX2_branch_96 : decode cX2_branch 96 = .ok (.iand, 1) := by decide +kernel
theorem dX2_branch_97 : decode cX2_branch 97 = .ok (.putfield 57, 3) := by decide +kernel
theorem dX2_branch_100 : decode cX2_branch 100 = .ok (.return_, 1) := by decide +kernel
theorem dX2_jump_0 : decode cX2_jump 0 = .ok (.iload_n 1, 1) := by decide +kernel
theorem dX2_jump_1 : decode cX2_jump 1 = .ok (.bipush 25, 2) := by decide +kernel
theorem dX2_jump_3 : decode cX2_jump 3 = .ok (.if_icmp .ne 16, 3) := by decide +kernel
theorem dX2_jump_6 : decode cX2_jump 6 = .ok (.aload_n 0, 1) := by decide +kernel
theorem dX2_jump_7 : decode cX2_jump 7 = .ok (.iload_n 3, 1) := by decide +kernel
theorem dX2_jump_8 : decode cX2_jump 8 = .ok (.invokevirtual 213, 3) := by decide +kernel
theorem dX2_jump_11 : decode cX2_jump 11 = .ok (.aload_n 0, 1) := by decide +kernel
theorem dX2_jump_12 : decode cX2_jump 12 = .ok (.aload_n 0, 1) := by decide +kernel
theorem dX2_jump_13 : decode cX2_jump 13 = .ok (.getfield 57, 3) := by decide +kernel
theorem dX2_jump_16 : decode cX2_jump 16 = .ok (.invokevirtual 216, 3) := by decide +kernel
theorem dX2_jump_19 : decode cX2_jump 19 = .ok (.aload_n 0, 1) := by decide +kernel
theorem dX2_jump_20 : decode cX2_jump 20 = .ok (.iload_n 2, 1) := by decide +kernel
theorem dX2_jump_21 : decode cX2_jump 21 = .ok (.putfield 57, 3) := by decide +kernel
theorem dX2_jump_24 : decode cX2_jump 24 = .ok (.return_, 1) := by decide +kernel
theorem dX2_moded_0 : decode cX2_moded 0 = .ok (.iload_n 2, 1) := by decide +kernel
theorem dX2_moded_1 : decode cX2_moded 1 = .ok (.iconst 1, 1) := by decide +kernel
theorem dX2_moded_2 : decode cX2_moded 2 = .ok (.if_icmp .ne 7, 3) := by decide +kernel
theorem dX2_moded_5 : decode cX2_moded 5 = .ok (.iconst (-1), 1) := by decide +kernel
theorem dX2_moded_6 : decode cX2_moded 6 = .ok (.goto 11, 3) := by decide +kernel
theorem dX2_moded_9 : decode cX2_moded 9 = .ok (.aload_n 0, 1) := by decide +kernel
theorem dX2_moded_10 : decode cX2_moded 10 = .ok (.iload_n 2, 1) := by decide +kernel
theorem dX2_moded_11 : decode cX2_moded 11 = .ok (.iload_n 3, 1) := by decide +kernel
theorem dX2_moded_12 : decode cX2_moded 12 = .ok (.iload 4, 2) := by decide +kernel
theorem dX2_moded_14 : decode cX2_moded 14 = .ok (.invokevirtual 168, 3) := by decide +kernel
theorem dX2_moded_17 : decode cX2_moded 17 = .ok (.istore 5, 2) := by decide +kernel
theorem dX2_moded_19 : decode cX2_moded 19 = .ok (.iload_n 1, 1) := by decide +kernel
theorem dX2_moded_20 : decode cX2_moded 20 = .ok (.bipush 16, 2) := by decide +kernel
theorem dX2_moded_22 : decode cX2_moded 22 = .ok (.if_icmp .ne 16, 3) := by decide +kernel
theorem dX2_moded_25 : decode cX2_moded 25 = .ok (.aload_n 0, 1) := by decide +kernel
theorem dX2_moded_26 : decode cX2_moded 26 = .ok (.iload 5, 2) := by decide +kernel
theorem dX2_moded_28 : decode cX2_moded 28 = .ok (.aload_n 0, 1) := by decide +kernel
theorem dX2_moded_29 : decode cX2_moded 29 = .ok (.getfield 40, 3) := by decide +kernel
theorem dX2_moded_32 : decode cX2_moded 32 = .ok (.invokevirtual 219, 3) := by decide +kernel
theorem dX2_moded_35 : decode cX2_moded 35 = .ok (.goto 68, 3) := by decide +kernel
theorem dX2_moded_38 : decode cX2_moded 38 = .ok (.iload_n 1, 1) := by decide +kernel
theorem dX2_moded_39 : decode cX2_moded 39 = .ok (.bipush 17, 2) := by decide +kernel
theorem dX2_moded_41 : decode cX2_moded 41 = .ok (.if_icmp .ne 16, 3) := by decide +kernel
theorem dX2_moded_44 : decode cX2_moded 44 = .ok (.aload_n 0, 1) := by decide +kernel
theorem dX2_moded_45 : decode cX2_moded 45 = .ok (.iload 5, 2) := by decide +kernel
theorem dX2_moded_47 : decode cX2_moded 47 = .ok (.aload_n 0, 1) := by decide +kernel
theorem dX2_moded_48 : decode cX2_moded 48 = .ok (.getfield 44, 3) := by decide +kernel
theorem dX2_moded_51 : decode cX2_moded 51 = .ok (.invokevirtual 219, 3) := by decide +kernel
theorem dX2_moded_54 : decode cX2_moded 54 = .ok (.goto 49, 3) := by decide +kernel
theorem dX2_moded_57 : decode cX2_moded 57 = .ok (.iload_n 1, 1) := by decide +kernel
theorem dX2_moded_58 : decode cX2_moded 58 = .ok (.bipush 17, 2) := by decide +kernel
theorem dX2_moded_60 : decode cX2_moded 60 = .ok (.if_icmp .le 23, 3) := by decide +kernel
theorem dX2_moded_63 : decode cX2_moded 63 = .ok (.aload_n 0, 1) := by decide +kernel
theorem dX2_moded_64 : decode cX2_moded 64 = .ok (.iload 5, 2) := by decide +kernel
theorem dX2_moded_66 : decode cX2_moded 66 = .ok (.aload_n 0, 1) := by decide +kernel
theorem dX2_moded_67 : decode cX2_moded 67 = .ok (.iload_n 1, 1) := by decide +kernel
theorem dX2_moded_68 : decode cX2_moded 68 = .ok (.aload_n 0, 1) := by decide +kernel
theorem dX2_moded_69 : decode cX2_moded 69 = .ok (.iload 5, 2) := by decide +kernel
theorem dX2_moded_71 : decode cX2_moded 71 = .ok (.invokevirtual 222, 3) := by decide +kernel
theorem dX2_moded_74 : decode cX2_moded 74 = .ok (.invokevirtual 225, 3) := by decide +kernel
theorem dX2_moded_77 : decode cX2_moded 77 = .ok (.invokevirtual 219, 3) := by decide +kernel
theorem dX2_moded_80 : decode cX2_moded 80 = .ok (.goto 23, 3) := by decide +kernel
theorem dX2_moded_83 : decode cX2_moded 83 = .ok (.aload_n 0, 1) := by decide +kernel
theorem dX2_moded_84 : decode cX2_moded 84 = .ok (.iload_n 1, 1) := by decide +kernel
theorem dX2_moded_85 : decode cX2_moded 85 = .ok (.iload_n 2, 1) := by decide +kernel
theorem dX2_moded_86 : decode cX2_moded 86 = .ok (.iconst 1, 1) := by decide +kernel
theorem dX2_moded_87 : decode cX2_moded 87 = .ok (.if_icmp .ne 7, 3) := by decide +kernel
theorem dX2_moded_90 : decode cX2_moded 90 = .ok (.iload_n 3, 1) := by decide +kernel
theorem dX2_moded_91 : decode cX2_moded 91 = .ok (.goto 9, 3) := by decide +kernel
theorem dX2_moded_94 : decode cX2_moded 94 = .ok (.aload_n 0, 1) := by decide +kernel
theorem dX2_moded_95 : decode cX2_moded 95 = .ok (.iload 5, 2) := by decide +kernel
theorem dX2_moded_97 : decode cX2_moded 97 = .ok (.invokevirtual 222, 3) := by decide +kernel
theorem dX2_moded_100 : decode cX2_moded 100 = .ok (.invokevirtual 228, 3) := by decide +kernel
theorem dX2_moded_103 : decode cX2_moded 103 = .ok (.return_, 1) := by decide +kernel
theorem dX2_target_0 : decode cX2_target 0 = .ok (.iload_n 2, 1) := by decide +kernel
theorem dX2_target_1 : decode cX2_target 1 = .ok (.sipush 256, 3) := by decide +kernel
theorem dX2_target_4 : decode cX2_target 4 = .ok (.iload_n 3, 1) := by decide +kernel
theorem dX2_target_5 : decode cX2_target 5 = .ok (.imul, 1) := by decide +kernel
theorem dX2_target_6 : decode cX2_target 6 = .ok (.iadd, 1) := by decide +kernel
theorem dX2_target_7 : decode cX2_target 7 = .ok (.istore 4, 2) := by decide +kernel
theorem dX2_target_9 : decode cX2_target 9 = .ok (.iload_n 1, 1) := by decide +kernel
theorem dX2_target_10 : decode cX2_target 10 = .ok (.iconst 2, 1) := by decide +kernel
theorem dX2_target_11 : decode cX2_target 11 = .ok (.if_icmp .ne 6, 3) := by decide +kernel
theorem dX2_target_14 : decode cX2_target 14 = .ok (.iload_n 2, 1) := by decide +kernel
theorem dX2_target_15 : decode cX2_target 15 = .ok (.istore 4, 2) := by decide +kernel
theorem dX2_target_17 : decode cX2_target 17 = .ok (.iload_n 1, 1) := by decide +kernel
theorem dX2_target_18 : decode cX2_target 18 = .ok (.iconst 4, 1) := by decide +kernel
theorem dX2_target_19 : decode cX2_target 19 = .ok (.if_icmp .ne 12, 3) := by decide +kernel
theorem dX2_target_22 : decode cX2_target 22 = .ok (.iload 4, 2) := by decide +kernel
theorem dX2_target_24 : decode cX2_target 24 = .ok (.aload_n 0, 1) := by decide +kernel
theorem dX2_target_25 : decode cX2_target 25 = .ok (.getfield 44, 3) := by decide +kernel
theorem dX2_target_28 : decode cX2_target 28 = .ok (.iadd, 1) := by decide +kernel
theorem dX2_target_29 : decode cX2_target 29 = .ok (.istore 4, 2) := by decide +kernel
theorem dX2_target_31 : decode cX2_target 31 = .ok (.iload_n 1, 1) := by decide +kernel
theorem dX2_target_32 : decode cX2_target 32 = .ok (.iconst 5, 1) := by decide +kernel
theorem dX2_target_33 : decode cX2_target 33 = .ok (.if_icmp .lt 41, 3) := by decide +kernel
theorem dX2_target_36 : decode cX2_target 36 = .ok (.iload_n 2, 1) := by decide +kernel
theorem dX2_target_37 : decode cX2_target 37 = .ok (.iconst 1, 1) := by decide +kernel
theorem dX2_target_38 : decode cX2_target 38 = .ok (.iadd, 1) := by decide +kernel
theorem dX2_target_39 : decode cX2_target 39 = .ok (.sipush 255, 3) := by decide +kernel
theorem dX2_target_42 : decode cX2_target 42 = .ok (.iand, 1) := by decide +kernel
theorem dX2_target_43 : decode cX2_target 43 = .ok (.istore 5, 2) := by decide +kernel
theorem dX2_target_45 : decode cX2_target 45 = .ok (.aload_n 0, 1) := by decide +kernel
theorem dX2_target_46 : decode cX2_target 46 = .ok (.iload_n 2, 1) := by decide +kernel
theorem dX2_target_47 : decode cX2_target 47 = .ok (.invokevirtual 231, 3) := by decide +kernel
theorem dX2_target_50 : decode cX2_target 50 = .ok (.aload_n 0, 1) := by decide +kernel
theorem dX2_target_51 : decode cX2_target 51 = .ok (.iload 5, 2) := by decide +kernel
theorem dX2_target_53 : decode cX2_target 53 = .ok (.invokevirtual 231, 3) := by decide +kernel
theorem dX2_target_56 : decode cX2_target 56 = .ok (.aload_n 0, 1) := by decide +kernel
theorem dX2_target_57 : decode cX2_target 57 = .ok (.iload_n 2, 1) := by decide +kernel
theorem dX2_target_58 : decode cX2_target 58 = .ok (.invokevirtual 100, 3) := by decide +kernel
theorem dX2_target_61 : decode cX2_target 61 = .ok (.sipush 256, 3) := by decide +kernel
theorem dX2_target_64 : decode cX2_target 64 = .ok (.aload_n 0, 1) := by decide +kernel
theorem dX2_target_65 : decode cX2_target 65 = .ok (.iload 5, 2) := by decide +kernel
theorem dX2_target_67 : decode cX2_target 67 = .ok (.invokevirtual 100, 3) := by decide +kernel
theorem dX2_target_70 : decode cX2_target 70 = .ok (.imul, 1) := by decide +kernel
theorem dX2_target_71 : decode cX2_target 71 = .ok (.iadd, 1) := by decide +kernel
theorem dX2_target_72 : decode cX2_target 72 = .ok (.istore 4, 2) := by decide +kernel
theorem dX2_target_74 : decode cX2_target 74 = .ok (.iload_n 1, 1) := by decide +kernel
theorem dX2_target_75 : decode cX2_target 75 = .ok (.bipush 6, 2) := by decide +kernel
theorem dX2_target_77 : decode cX2_target 77 = .ok (.if_icmp .ne 12, 3) := by decide +kernel
theorem dX2_target_80 : decode cX2_target 80 = .ok (.iload 4, 2) := by decide +kernel
theorem dX2_target_82 : decode cX2_target 82 = .ok (.aload_n 0, 1) := by decide +kernel
theorem dX2_target_83 : decode cX2_target 83 = .ok (.getfield 44, 3) := by decide +kernel
theorem dX2_target_86 : decode cX2_target 86 = .ok (.iadd, 1) := by decide +kernel
theorem dX2_target_87 : decode cX2_target 87 = .ok (.istore 4, 2) := by decide +kernel
theorem dX2_target_89 : decode cX2_target 89 = .ok (.iload 4, 2) := by decide +kernel
theorem dX2_target_91 : decode cX2_target 91 = .ok (.sipush 4095, 3) := by decide +kernel
theorem dX2_target_94 : decode cX2_target 94 = .ok (.iand, 1) := by decide +kernel
theorem dX2_target_95 : decode cX2_target 95 = .ok (.ireturn, 1) := by decide +kernel
theorem dX2_operate_0 : decode cX2_operate 0 = .ok (.aload_n 0, 1) := by decide +kernel
theorem dX2_operate_1 : decode cX2_operate 1 = .ok (.getfield 50, 3) := by decide +kernel
theorem dX2_operate_4 : decode cX2_operate 4 = .ok (.iconst 1, 1) := by decide +kernel
theorem dX2_operate_5 : decode cX2_operate 5 = .ok (.iand, 1) := by decide +kernel
theorem dX2_operate_6 : decode cX2_operate 6 = .ok (.istore_n 3, 1) := by decide +kernel
theorem dX2_operate_7 : decode cX2_operate 7 = .ok (.iload_n 1, 1) := by decide +kernel
theorem dX2_operate_8 : decode cX2_operate 8 = .ok (.tableswitch 203 4 14 #[60, 72, 84, 93, 102, 115, 128, 140, 152, 169, 186], 60) := by decide +kernel
theorem dX2_operate_68 : decode cX2_operate 68 = .ok (.aload_n 0, 1) := by decide +kernel
theorem dX2_operate_69 : decode cX2_operate 69 = .ok (.aload_n 0, 1) := by decide +kernel
theorem dX2_operate_70 : decode cX2_operate 70 = .ok (.iload_n 2, 1) := by decide +kernel
theorem dX2_operate_71 : decode cX2_operate 71 = .ok (.invokevirtual 195, 3) := by decide +kernel
theorem dX2_operate_74 : decode cX2_operate 74 = .ok (.putfield 40, 3) := by decide +kernel
theorem dX2_operate_77 : decode cX2_operate 77 = .ok (.goto 190, 3) := by decide +kernel
theorem dX2_operate_80 : decode cX2_operate 80 = .ok (.aload_n 0, 1) := by decide +kernel
theorem dX2_operate_81 : decode cX2_operate 81 = .ok (.aload_n 0, 1) := by decide +kernel
theorem dX2_operate_82 : decode cX2_operate 82 = .ok (.iload_n 2, 1) := by decide +kernel
theorem dX2_operate_83 : decode cX2_operate 83 = .ok (.invokevirtual 195, 3) := by decide +kernel
theorem dX2_operate_86 : decode cX2_operate 86 = .ok (.putfield 44, 3) := by decide +kernel
theorem dX2_operate_89 : decode cX2_operate 89 = .ok (.goto 178, 3) := by decide +kernel
theorem dX2_operate_92 : decode cX2_operate 92 = .ok (.aload_n 0, 1) := by decide +kernel
theorem dX2_operate_93 : decode cX2_operate 93 = .ok (.iload_n 2, 1) := by decide +kernel
theorem dX2_operate_94 : decode cX2_operate 94 = .ok (.iconst 0, 1) := by decide +kernel
theorem dX2_operate_95 : decode cX2_operate 95 = .ok (.invokevirtual 234, 3) := by decide +kernel
theorem dX2_operate_98 : decode cX2_operate 98 = .ok (.goto 169, 3) := by decide +kernel
theorem dX2_operate_101 : decode cX2_operate 101 = .ok (.aload_n 0, 1) := by decide +kernel
theorem dX2_operate_102 : decode cX2_operate 102 = .ok (.iload_n 2, 1) := by decide +kernel
theorem dX2_operate_103 : decode cX2_operate 103 = .ok (.iload_n 3, 1) := by decide +kernel
theorem dX2_operate_104 : decode cX2_operate 104 = .ok (.invokevirtual 234, 3) := by decide +kernel
theorem dX2_operate_107 : decode cX2_operate 107 = .ok (.goto 160, 3) := by decide +kernel
theorem dX2_operate_110 : decode cX2_operate 110 = .ok (.aload_n 0, 1) := by decide +kernel
theorem dX2_operate_111 : decode cX2_operate 111 = .ok (.sipush 255, 3) := by decide +kernel
theorem dX2_operate_114 : decode cX2_operate 114 = .ok (.iload_n 2, 1) := by decide +kernel
theorem dX2_operate_115 : decode cX2_operate 115 = .ok (.isub, 1) := by decide +kernel
theorem dX2_operate_116 : decode cX2_operate 116 = .ok (.iconst 1, 1) := by decide +kernel
theorem dX2_operate_117 : decode cX2_operate 117 = .ok (.invokevirtual 234, 3) := by decide +kernel
theorem dX2_operate_120 : decode cX2_operate 120 = .ok (.goto 147, 3) := by decide +kernel
theorem dX2_operate_123 : decode cX2_operate 123 = .ok (.aload_n 0, 1) := by decide +kernel
theorem dX2_operate_124 : decode cX2_operate 124 = .ok (.sipush 255, 3) := by decide +kernel
theorem dX2_operate_127 : decode cX2_operate 127 = .ok (.iload_n 2, 1) := by decide +kernel
theorem dX2_operate_128 : decode cX2_operate 128 = .ok (.isub, 1) := by decide +kernel
theorem dX2_operate_129 : decode cX2_operate 129 = .ok (.iload_n 3, 1) := by decide +kernel
theorem dX2_operate_130 : decode cX2_operate 130 = .ok (.invokevirtual 234, 3) := by decide +kernel
theorem dX2_operate_133 : decode cX2_operate 133 = .ok (.goto 134, 3) := by decide +kernel
theorem dX2_operate_136 : decode cX2_operate 136 = .ok (.aload_n 0, 1) := by decide +kernel
theorem dX2_operate_137 : decode cX2_operate 137 = .ok (.aload_n 0, 1) := by decide +kernel
theorem dX2_operate_138 : decode cX2_operate 138 = .ok (.getfield 40, 3) := by decide +kernel
theorem dX2_operate_141 : decode cX2_operate 141 = .ok (.iload_n 2, 1) := by decide +kernel
theorem dX2_operate_142 : decode cX2_operate 142 = .ok (.invokevirtual 237, 3) := by decide +kernel
theorem dX2_operate_145 : decode cX2_operate 145 = .ok (.goto 122, 3) := by decide +kernel
theorem dX2_operate_148 : decode cX2_operate 148 = .ok (.aload_n 0, 1) := by decide +kernel
theorem dX2_operate_149 : decode cX2_operate 149 = .ok (.aload_n 0, 1) := by decide +kernel
theorem dX2_operate_150 : decode cX2_operate 150 = .ok (.getfield 44, 3) := by decide +kernel
theorem dX2_operate_153 : decode cX2_operate 153 = .ok (.iload_n 2, 1) := by decide +kernel
theorem dX2_operate_154 : decode cX2_operate 154 = .ok (.invokevirtual 237, 3) := by decide +kernel
theorem dX2_operate_157 : decode cX2_operate 157 = .ok (.goto 110, 3) := by decide +kernel
theorem dX2_operate_160 : decode cX2_operate 160 = .ok (.aload_n 0, 1) := by decide +kernel
theorem dX2_operate_161 : decode cX2_operate 161 = .ok (.aload_n 0, 1) := by decide +kernel
theorem dX2_operate_162 : decode cX2_operate 162 = .ok (.aload_n 0, 1) := by decide +kernel
theorem dX2_operate_163 : decode cX2_operate 163 = .ok (.getfield 40, 3) := by decide +kernel
theorem dX2_operate_166 : decode cX2_operate 166 = .ok (.iload_n 2, 1) := by decide +kernel
theorem dX2_operate_167 : decode cX2_operate 167 = .ok (.iand, 1) := by decide +kernel
theorem dX2_operate_168 : decode cX2_operate 168 = .ok (.invokevirtual 195, 3) := by decide +kernel
theorem dX2_operate_171 : decode cX2_operate 171 = .ok (.putfield 40, 3) := by decide +kernel
theorem dX2_operate_174 : decode cX2_operate 174 = .ok (.goto 93, 3) := by decide +kernel
theorem dX2_operate_177 : decode cX2_operate 177 = .ok (.aload_n 0, 1) := by decide +kernel
theorem dX2_operate_178 : decode cX2_operate 178 = .ok (.aload_n 0, 1) := by decide +kernel
theorem dX2_operate_179 : decode cX2_operate 179 = .ok (.aload_n 0, 1) := by decide +kernel
theorem dX2_operate_180 : decode cX2_operate 180 = .ok (.getfield 40, 3) := by decide +kernel
theorem dX2_operate_183 : decode cX2_operate 183 = .ok (.iload_n 2, 1) := by decide +kernel
theorem dX2_operate_184 : decode cX2_operate 184 = .ok (.ior, 1) := by decide +kernel
theorem dX2_operate_185 : decode cX2_operate 185 = .ok (.invokevirtual 195, 3) := by decide +kernel
theorem dX2_operate_188 : decode cX2_operate 188 = .ok (.putfield 40, 3) := by decide +kernel
theorem dX2_operate_191 : decode cX2_operate 191 = .ok (.goto 76, 3) := by decide +kernel
theorem dX2_operate_194 : decode cX2_operate 194 = .ok (.aload_n 0, 1) := by decide +kernel
theorem dX2_operate_195 : decode cX2_operate 195 = .ok (.aload_n 0, 1) := by decide +kernel
theorem dX2_operate_196 : decode cX2_operate 196 = .ok (.aload_n 0, 1) := by decide +kernel
theorem dX2_operate_197 : decode cX2_operate 197 = .ok (.getfield 40, 3) := by decide +kernel
theorem dX2_operate_200 : decode cX2_operate 200 = .ok (.iload_n 2, 1) := by decide +kernel
theorem dX2_operate_201 : decode cX2_operate 201 = .ok (.ixor, 1) := by decide +kernel
theorem dX2_operate_202 : decode cX2_operate 202 = .ok (.invokevirtual 195, 3) := by decide +kernel
theorem dX2_operate_205 : decode cX2_operate 205 = .ok (.putfield 40, 3) := by decide +kernel
theorem dX2_operate_208 : decode cX2_operate 208 = .ok (.goto 59, 3) := by decide +kernel
theorem dX2_operate_211 : decode cX2_operate 211 = .ok (.aload_n 0, 1) := by decide +kernel
theorem dX2_operate_212 : decode cX2_operate 212 = .ok (.iconst 2, 1) := by decide +kernel
theorem dX2_operate_213 : decode cX2_operate 213 = .ok (.aload_n 0, 1) := by decide +kernel
theorem dX2_operate_214 : decode cX2_operate 214 = .ok (.getfield 40, 3) := by decide +kernel
theorem dX2_operate_217 : decode cX2_operate 217 = .ok (.iload_n 2, 1) := by decide +kernel
theorem dX2_operate_218 : decode cX2_operate 218 = .ok (.iand, 1) := by decide +kernel
theorem dX2_operate_219 : decode cX2_operate 219 = .ok (.ifCond .ne 7, 3) := by decide +kernel
theorem dX2_operate_222 : decode cX2_operate 222 = .ok (.iconst 1, 1) := by decide +kernel
theorem dX2_operate_223 : decode cX2_operate 223 = .ok (.goto 4, 3) := by decide +kernel
theorem dX2_operate_226 : decode cX2_operate 226 = .ok (.iconst 0, 1) := by decide +kernel
theorem dX2_operate_227 : decode cX2_operate 227 = .ok (.invokevirtual 191, 3) := by decide +kernel
theorem dX2_operate_230 : decode cX2_operate 230 = .ok (.aload_n 0, 1) := by decide +kernel
theorem dX2_operate_231 : decode cX2_operate 231 = .ok (.bipush 16, 2) := by decide +kernel
theorem dX2_operate_233 : decode cX2_operate 233 = .ok (.iload_n 2, 1) := by decide +kernel
theorem dX2_operate_234 : decode cX2_operate 234 = .ok (.sipush 128, 3) := by decide +kernel
theorem dX2_operate_237 : decode cX2_operate 237 = .ok (.iand, 1) := by decide +kernel
theorem dX2_operate_238 : decode cX2_operate 238 = .ok (.ifCond .eq 7, 3) := by decide +kernel
theorem dX2_operate_241 : decode cX2_operate 241 = .ok (.iconst 1, 1) := by decide +kernel
theorem dX2_operate_242 : decode cX2_operate 242 = .ok (.goto 4, 3) := by decide +kernel
theorem dX2_operate_245 : decode cX2_operate 245 = .ok (.iconst 0, 1) := by decide +kernel
theorem dX2_operate_246 : decode cX2_operate 246 = .ok (.invokevirtual 191, 3) := by decide +kernel
theorem dX2_operate_249 : decode cX2_operate 249 = .ok (.aload_n 0, 1) := by decide +kernel
theorem dX2_operate_250 : decode cX2_operate 250 = .ok (.bipush 8, 2) := by decide +kernel
theorem dX2_operate_252 : decode cX2_operate 252 = .ok (.iload_n 2, 1) := by decide +kernel
theorem dX2_operate_253 : decode cX2_operate 253 = .ok (.bipush 64, 2) := by decide +kernel
theorem dX2_operate_255 : decode cX2_operate 255 = .ok (.iand, 1) := by decide +kernel
theorem dX2_operate_256 : decode cX2_operate 256 = .ok (.ifCond .eq 7, 3) := by decide +kernel
theorem dX2_operate_259 : decode cX2_operate 259 = .ok (.iconst 1, 1) := by decide +kernel
theorem dX2_operate_260 : decode cX2_operate 260 = .ok (.goto 4, 3) := by decide +kernel
theorem dX2_operate_263 : decode cX2_operate 263 = .ok (.iconst 0, 1) := by decide +kernel
theorem dX2_operate_264 : decode cX2_operate 264 = .ok (.invokevirtual 191, 3) := by decide +kernel
theorem dX2_operate_267 : decode cX2_operate 267 = .ok (.return_, 1) := by decide +kernel
theorem dX2_changed_0 : decode cX2_changed 0 = .ok (.iload_n 1, 1) := by decide +kernel
theorem dX2_changed_1 : decode cX2_changed 1 = .ok (.bipush 18, 2) := by decide +kernel
theorem dX2_changed_3 : decode cX2_changed 3 = .ok (.if_icmp .ne 15, 3) := by decide +kernel
theorem dX2_changed_6 : decode cX2_changed 6 = .ok (.aload_n 0, 1) := by decide +kernel
theorem dX2_changed_7 : decode cX2_changed 7 = .ok (.iload_n 2, 1) := by decide +kernel
theorem dX2_changed_8 : decode cX2_changed 8 = .ok (.iconst 1, 1) := by decide +kernel
theorem dX2_changed_9 : decode cX2_changed 9 = .ok (.iadd, 1) := by decide +kernel
theorem dX2_changed_10 : decode cX2_changed 10 = .ok (.sipush 255, 3) := by decide +kernel
theorem dX2_changed_13 : decode cX2_changed 13 = .ok (.iand, 1) := by decide +kernel
theorem dX2_changed_14 : decode cX2_changed 14 = .ok (.invokevirtual 195, 3) := by decide +kernel
theorem dX2_changed_17 : decode cX2_changed 17 = .ok (.ireturn, 1) := by decide +kernel
theorem dX2_changed_18 : decode cX2_changed 18 = .ok (.iload_n 1, 1) := by decide +kernel
theorem dX2_changed_19 : decode cX2_changed 19 = .ok (.bipush 19, 2) := by decide +kernel
theorem dX2_changed_21 : decode cX2_changed 21 = .ok (.if_icmp .ne 15, 3) := by decide +kernel
theorem dX2_changed_24 : decode cX2_changed 24 = .ok (.aload_n 0, 1) := by decide +kernel
theorem dX2_changed_25 : decode cX2_changed 25 = .ok (.iload_n 2, 1) := by decide +kernel
theorem dX2_changed_26 : decode cX2_changed 26 = .ok (.iconst 1, 1) := by decide +kernel
theorem dX2_changed_27 : decode cX2_changed 27 = .ok (.isub, 1) := by decide +kernel
theorem dX2_changed_28 : decode cX2_changed 28 = .ok (.sipush 255, 3) := by decide +kernel
theorem dX2_changed_31 : decode cX2_changed 31 = .ok (.iand, 1) := by decide +kernel
theorem dX2_changed_32 : decode cX2_changed 32 = .ok (.invokevirtual 195, 3) := by decide +kernel
theorem dX2_changed_35 : decode cX2_changed 35 = .ok (.ireturn, 1) := by decide +kernel
theorem dX2_changed_36 : decode cX2_changed 36 = .ok (.aload_n 0, 1) := by decide +kernel
theorem dX2_changed_37 : decode cX2_changed 37 = .ok (.iload_n 1, 1) := by decide +kernel
theorem dX2_changed_38 : decode cX2_changed 38 = .ok (.bipush 20, 2) := by decide +kernel
theorem dX2_changed_40 : decode cX2_changed 40 = .ok (.isub, 1) := by decide +kernel
theorem dX2_changed_41 : decode cX2_changed 41 = .ok (.iload_n 2, 1) := by decide +kernel
theorem dX2_changed_42 : decode cX2_changed 42 = .ok (.invokevirtual 207, 3) := by decide +kernel
theorem dX2_changed_45 : decode cX2_changed 45 = .ok (.ireturn, 1) := by decide +kernel
theorem dX2_add_0 : decode cX2_add 0 = .ok (.aload_n 0, 1) := by decide +kernel
theorem dX2_add_1 : decode cX2_add 1 = .ok (.getfield 40, 3) := by decide +kernel
theorem dX2_add_4 : decode cX2_add 4 = .ok (.iload_n 1, 1) := by decide +kernel
theorem dX2_add_5 : decode cX2_add 5 = .ok (.iadd, 1) := by decide +kernel
theorem dX2_add_6 : decode cX2_add 6 = .ok (.iload_n 2, 1) := by decide +kernel
theorem dX2_add_7 : decode cX2_add 7 = .ok (.iadd, 1) := by decide +kernel
theorem dX2_add_8 : decode cX2_add 8 = .ok (.istore_n 3, 1) := by decide +kernel
theorem dX2_add_9 : decode cX2_add 9 = .ok (.iload_n 3, 1) := by decide +kernel
theorem dX2_add_10 : decode cX2_add 10 = .ok (.sipush 255, 3) := by decide +kernel
theorem dX2_add_13 : decode cX2_add 13 = .ok (.iand, 1) := by decide +kernel
theorem dX2_add_14 : decode cX2_add 14 = .ok (.istore 4, 2) := by decide +kernel
theorem dX2_add_16 : decode cX2_add 16 = .ok (.aload_n 0, 1) := by decide +kernel
theorem dX2_add_17 : decode cX2_add 17 = .ok (.iconst 1, 1) := by decide +kernel
theorem dX2_add_18 : decode cX2_add 18 = .ok (.iload_n 3, 1) := by decide +kernel
theorem dX2_add_19 : decode cX2_add 19 = .ok (.sipush 255, 3) := by decide +kernel
theorem dX2_add_22 : decode cX2_add 22 = .ok (.if_icmp .le 7, 3) := by decide +kernel
theorem dX2_add_25 : decode cX2_add 25 = .ok (.iconst 1, 1) := by decide +kernel
theorem dX2_add_26 : decode cX2_add 26 = .ok (.goto 4, 3) := by decide +kernel
theorem dX2_add_29 : decode cX2_add 29 = .ok (.iconst 0, 1) := by decide +kernel
theorem dX2_add_30 : decode cX2_add 30 = .ok (.invokevirtual 191, 3) := by decide +kernel
theorem dX2_add_33 : decode cX2_add 33 = .ok (.aload_n 0, 1) := by decide +kernel
theorem dX2_add_34 : decode cX2_add 34 = .ok (.bipush 8, 2) := by decide +kernel
theorem dX2_add_36 : decode cX2_add 36 = .ok (.aload_n 0, 1) := by decide +kernel
theorem dX2_add_37 : decode cX2_add 37 = .ok (.getfield 40, 3) := by decide +kernel
theorem dX2_add_40 : decode cX2_add 40 = .ok (.iload 4, 2) := by decide +kernel
theorem dX2_add_42 : decode cX2_add 42 = .ok (.ixor, 1) := by decide +kernel
theorem dX2_add_43 : decode cX2_add 43 = .ok (.iload_n 1, 1) := by decide +kernel
theorem dX2_add_44 : decode cX2_add 44 = .ok (.iload 4, 2) := by decide +kernel
theorem dX2_add_46 : decode cX2_add 46 = .ok (.ixor, 1) := by decide +kernel
theorem dX2_add_47 : decode cX2_add 47 = .ok (.iand, 1) := by decide +kernel
theorem dX2_add_48 : decode cX2_add 48 = .ok (.sipush 128, 3) := by decide +kernel
theorem dX2_add_51 : decode cX2_add 51 = .ok (.iand, 1) := by decide +kernel
theorem dX2_add_52 : decode cX2_add 52 = .ok (.ifCond .eq 7, 3) := by decide +kernel
theorem dX2_add_55 : decode cX2_add 55 = .ok (.iconst 1, 1) := by decide +kernel
theorem dX2_add_56 : decode cX2_add 56 = .ok (.goto 4, 3) := by decide +kernel
theorem dX2_add_59 : decode cX2_add 59 = .ok (.iconst 0, 1) := by decide +kernel
theorem dX2_add_60 : decode cX2_add 60 = .ok (.invokevirtual 191, 3) := by decide +kernel
theorem dX2_add_63 : decode cX2_add 63 = .ok (.aload_n 0, 1) := by decide +kernel
theorem dX2_add_64 : decode cX2_add 64 = .ok (.aload_n 0, 1) := by decide +kernel
theorem dX2_add_65 : decode cX2_add 65 = .ok (.iload 4, 2) := by decide +kernel
theorem dX2_add_67 : decode cX2_add 67 = .ok (.invokevirtual 195, 3) := by decide +kernel
theorem dX2_add_70 : decode cX2_add 70 = .ok (.putfield 40, 3) := by decide +kernel
theorem dX2_add_73 : decode cX2_add 73 = .ok (.return_, 1) := by decide +kernel
theorem dX2_compare_0 : decode cX2_compare 0 = .ok (.aload_n 0, 1) := by decide +kernel
theorem dX2_compare_1 : decode cX2_compare 1 = .ok (.iconst 1, 1) := by decide +kernel
theorem dX2_compare_2 : decode cX2_compare 2 = .ok (.iload_n 1, 1) := by decide +kernel
theorem dX2_compare_3 : decode cX2_compare 3 = .ok (.iload_n 2, 1) := by decide +kernel
theorem dX2_compare_4 : decode cX2_compare 4 = .ok (.if_icmp .lt 7, 3) := by decide +kernel
theorem dX2_compare_7 : decode cX2_compare 7 = .ok (.iconst 1, 1) := by decide +kernel
theorem dX2_compare_8 : decode cX2_compare 8 = .ok (.goto 4, 3) := by decide +kernel
theorem dX2_compare_11 : decode cX2_compare 11 = .ok (.iconst 0, 1) := by decide +kernel
theorem dX2_compare_12 : decode cX2_compare 12 = .ok (.invokevirtual 191, 3) := by decide +kernel
theorem dX2_compare_15 : decode cX2_compare 15 = .ok (.aload_n 0, 1) := by decide +kernel
theorem dX2_compare_16 : decode cX2_compare 16 = .ok (.iload_n 1, 1) := by decide +kernel
theorem dX2_compare_17 : decode cX2_compare 17 = .ok (.iload_n 2, 1) := by decide +kernel
theorem dX2_compare_18 : decode cX2_compare 18 = .ok (.isub, 1) := by decide +kernel
theorem dX2_compare_19 : decode cX2_compare 19 = .ok (.sipush 255, 3) := by decide +kernel
theorem dX2_compare_22 : decode cX2_compare 22 = .ok (.iand, 1) := by decide +kernel
theorem dX2_compare_23 : decode cX2_compare 23 = .ok (.invokevirtual 195, 3) := by decide +kernel
theorem dX2_compare_26 : decode cX2_compare 26 = .ok (.pop, 1) := by decide +kernel
theorem dX2_compare_27 : decode cX2_compare 27 = .ok (.return_, 1) := by decide +kernel
theorem dX2_shifted_0 : decode cX2_shifted 0 = .ok (.iload_n 1, 1) := by decide +kernel
theorem dX2_shifted_1 : decode cX2_shifted 1 = .ok (.iconst 2, 1) := by decide +kernel
theorem dX2_shifted_2 : decode cX2_shifted 2 = .ok (.if_icmp .lt 12, 3) := by decide +kernel
theorem dX2_shifted_5 : decode cX2_shifted 5 = .ok (.aload_n 0, 1) := by decide +kernel
theorem dX2_shifted_6 : decode cX2_shifted 6 = .ok (.getfield 50, 3) := by decide +kernel
theorem dX2_shifted_9 : decode cX2_shifted 9 = .ok (.iconst 1, 1) := by decide +kernel
theorem dX2_shifted_10 : decode cX2_shifted 10 = .ok (.iand, 1) := by decide +kernel
theorem dX2_shifted_11 : decode cX2_shifted 11 = .ok (.goto 4, 3) := by decide +kernel
theorem dX2_shifted_14 : decode cX2_shifted 14 = .ok (.iconst 0, 1) := by decide +kernel
theorem dX2_shifted_15 : decode cX2_shifted 15 = .ok (.istore_n 3, 1) := by decide +kernel
theorem dX2_shifted_16 : decode cX2_shifted 16 = .ok (.iload_n 1, 1) := by decide +kernel
theorem dX2_shifted_17 : decode cX2_shifted 17 = .ok (.iconst 1, 1) := by decide +kernel
theorem dX2_shifted_18 : decode cX2_shifted 18 = .ok (.iand, 1) := by decide +kernel
theorem dX2_shifted_19 : decode cX2_shifted 19 = .ok (.ifCond .ne 7, 3) := by decide +kernel
theorem dX2_shifted_22 : decode cX2_shifted 22 = .ok (.iconst 1, 1) := by decide +kernel
theorem dX2_shifted_23 : decode cX2_shifted 23 = .ok (.goto 4, 3) := by decide +kernel
theorem dX2_shifted_26 : decode cX2_shifted 26 = .ok (.iconst 0, 1) := by decide +kernel
theorem dX2_shifted_27 : decode cX2_shifted 27 = .ok (.istore 4, 2) := by decide +kernel
theorem dX2_shifted_29 : decode cX2_shifted 29 = .ok (.aload_n 0, 1) := by decide +kernel
theorem dX2_shifted_30 : decode cX2_shifted 30 = .ok (.iconst 1, 1) := by decide +kernel
theorem dX2_shifted_31 : decode cX2_shifted 31 = .ok (.iload_n 2, 1) := by decide +kernel
theorem dX2_shifted_32 : decode cX2_shifted 32 = .ok (.iload 4, 2) := by decide +kernel
theorem dX2_shifted_34 : decode cX2_shifted 34 = .ok (.ifCond .eq 9, 3) := by decide +kernel
theorem dX2_shifted_37 : decode cX2_shifted 37 = .ok (.sipush 128, 3) := by decide +kernel
theorem dX2_shifted_40 : decode cX2_shifted 40 = .ok (.goto 4, 3) := by decide +kernel
theorem dX2_shifted_43 : decode cX2_shifted 43 = .ok (.iconst 1, 1) := by decide +kernel
theorem dX2_shifted_44 : decode cX2_shifted 44 = .ok (.iand, 1) := by decide +kernel
theorem dX2_shifted_45 : decode cX2_shifted 45 = .ok (.ifCond .eq 7, 3) := by decide +kernel
theorem dX2_shifted_48 : decode cX2_shifted 48 = .ok (.iconst 1, 1) := by decide +kernel
theorem dX2_shifted_49 : decode cX2_shifted 49 = .ok (.goto 4, 3) := by decide +kernel
theorem dX2_shifted_52 : decode cX2_shifted 52 = .ok (.iconst 0, 1) := by decide +kernel
theorem dX2_shifted_53 : decode cX2_shifted 53 = .ok (.invokevirtual 191, 3) := by decide +kernel
theorem dX2_shifted_56 : decode cX2_shifted 56 = .ok (.aload_n 0, 1) := by decide +kernel
theorem dX2_shifted_57 : decode cX2_shifted 57 = .ok (.iload 4, 2) := by decide +kernel
theorem dX2_shifted_59 : decode cX2_shifted 59 = .ok (.ifCond .eq 15, 3) := by decide +kernel
theorem dX2_shifted_62 : decode cX2_shifted 62 = .ok (.iload_n 2, 1) := by decide +kernel
theorem dX2_shifted_63 : decode cX2_shifted 63 = .ok (.iconst 2, 1) := by decide +kernel
theorem dX2_shifted_64 : decode cX2_shifted 64 = .ok (.imul, 1) := by decide +kernel
theorem dX2_shifted_65 : decode cX2_shifted 65 = .ok (.sipush 256, 3) := by decide +kernel
theorem dX2_shifted_68 : decode cX2_shifted 68 = .ok (.irem, 1) := by decide +kernel
theorem dX2_shifted_69 : decode cX2_shifted 69 = .ok (.iload_n 3, 1) := by decide +kernel
theorem dX2_shifted_70 : decode cX2_shifted 70 = .ok (.iadd, 1) := by decide +kernel
theorem dX2_shifted_71 : decode cX2_shifted 71 = .ok (.goto 12, 3) := by decide +kernel
theorem dX2_shifted_74 : decode cX2_shifted 74 = .ok (.iload_n 2, 1) := by decide +kernel
theorem dX2_shifted_75 : decode cX2_shifted 75 = .ok (.iconst 2, 1) := by decide +kernel
theorem dX2_shifted_76 : decode cX2_shifted 76 = .ok (.idiv, 1) := by decide +kernel
theorem dX2_shifted_77 : decode cX2_shifted 77 = .ok (.iload_n 3, 1) := by decide +kernel
theorem dX2_shifted_78 : decode cX2_shifted 78 = .ok (.sipush 128, 3) := by decide +kernel
theorem dX2_shifted_81 : decode cX2_shifted 81 = .ok (.imul, 1) := by decide +kernel
theorem dX2_shifted_82 : decode cX2_shifted 82 = .ok (.iadd, 1) := by decide +kernel
theorem dX2_shifted_83 : decode cX2_shifted 83 = .ok (.invokevirtual 195, 3) := by decide +kernel
theorem dX2_shifted_86 : decode cX2_shifted 86 = .ok (.ireturn, 1) := by decide +kernel
theorem dX2_setFlag_0 : decode cX2_setFlag 0 = .ok (.aload_n 0, 1) := by decide +kernel
theorem dX2_setFlag_1 : decode cX2_setFlag 1 = .ok (.iload_n 2, 1) := by decide +kernel
theorem dX2_setFlag_2 : decode cX2_setFlag 2 = .ok (.ifCond .eq 12, 3) := by decide +kernel
theorem dX2_setFlag_5 : decode cX2_setFlag 5 = .ok (.aload_n 0, 1) := by decide +kernel
theorem dX2_setFlag_6 : decode cX2_setFlag 6 = .ok (.getfield 50, 3) := by decide +kernel
theorem dX2_setFlag_9 : decode cX2_setFlag 9 = .ok (.iload_n 1, 1) := by decide +kernel
theorem dX2_setFlag_10 : decode cX2_setFlag 10 = .ok (.ior, 1) := by decide +kernel
theorem dX2_setFlag_11 : decode cX2_setFlag 11 = .ok (.goto 11, 3) := by decide +kernel
theorem dX2_setFlag_14 : decode cX2_setFlag 14 = .ok (.aload_n 0, 1) := by decide +kernel
theorem dX2_setFlag_15 : decode cX2_setFlag 15 = .ok (.getfield 50, 3) := by decide +kernel
theorem dX2_setFlag_18 : decode cX2_setFlag 18 = .ok (.iload_n 1, 1) := by decide +kernel
theorem dX2_setFlag_19 : decode cX2_setFlag 19 = .ok (.iconst (-1), 1) := by decide +kernel
theorem dX2_setFlag_20 : decode cX2_setFlag 20 = .ok (.ixor, 1) := by decide +kernel
theorem dX2_setFlag_21 : decode cX2_setFlag 21 = .ok (.iand, 1) := by decide +kernel
theorem dX2_setFlag_22 : decode cX2_setFlag 22 = .ok (.putfield 50, 3) := by decide +kernel
theorem dX2_setFlag_25 : decode cX2_setFlag 25 = .ok (.return_, 1) := by decide +kernel
theorem dX2_zn_0 : decode cX2_zn 0 = .ok (.aload_n 0, 1) := by decide +kernel
theorem dX2_zn_1 : decode cX2_zn 1 = .ok (.aload_n 0, 1) := by decide +kernel
theorem dX2_zn_2 : decode cX2_zn 2 = .ok (.getfield 50, 3) := by decide +kernel
theorem dX2_zn_5 : decode cX2_zn 5 = .ok (.bipush (-19), 2) := by decide +kernel
theorem dX2_zn_7 : decode cX2_zn 7 = .ok (.iand, 1) := by decide +kernel
theorem dX2_zn_8 : decode cX2_zn 8 = .ok (.iload_n 1, 1) := by decide +kernel
theorem dX2_zn_9 : decode cX2_zn 9 = .ok (.ifCond .ne 7, 3) := by decide +kernel
theorem dX2_zn_12 : decode cX2_zn 12 = .ok (.iconst 2, 1) := by decide +kernel
theorem dX2_zn_13 : decode cX2_zn 13 = .ok (.goto 4, 3) := by decide +kernel
theorem dX2_zn_16 : decode cX2_zn 16 = .ok (.iconst 0, 1) := by decide +kernel
theorem dX2_zn_17 : decode cX2_zn 17 = .ok (.ior, 1) := by decide +kernel
theorem dX2_zn_18 : decode cX2_zn 18 = .ok (.iload_n 1, 1) := by decide +kernel
theorem dX2_zn_19 : decode cX2_zn 19 = .ok (.sipush 128, 3) := by decide +kernel
theorem dX2_zn_22 : decode cX2_zn 22 = .ok (.if_icmp .lt 8, 3) := by decide +kernel
theorem dX2_zn_25 : decode cX2_zn 25 = .ok (.bipush 16, 2) := by decide +kernel
theorem dX2_zn_27 : decode cX2_zn 27 = .ok (.goto 4, 3) := by decide +kernel
theorem dX2_zn_30 : decode cX2_zn 30 = .ok (.iconst 0, 1) := by decide +kernel
theorem dX2_zn_31 : decode cX2_zn 31 = .ok (.ior, 1) := by decide +kernel
theorem dX2_zn_32 : decode cX2_zn 32 = .ok (.putfield 50, 3) := by decide +kernel
theorem dX2_zn_35 : decode cX2_zn 35 = .ok (.iload_n 1, 1) := by decide +kernel
theorem dX2_zn_36 : decode cX2_zn 36 = .ok (.ireturn, 1) := by decide +kernel
theorem dX2_enter_0 : decode cX2_enter 0 = .ok (.aload_n 0, 1) := by decide +kernel
theorem dX2_enter_1 : decode cX2_enter 1 = .ok (.iload_n 2, 1) := by decide +kernel
theorem dX2_enter_2 : decode cX2_enter 2 = .ok (.invokevirtual 213, 3) := by decide +kernel
theorem dX2_enter_5 : decode cX2_enter 5 = .ok (.aload_n 0, 1) := by decide +kernel
theorem dX2_enter_6 : decode cX2_enter 6 = .ok (.aload_n 0, 1) := by decide +kernel
theorem dX2_enter_7 : decode cX2_enter 7 = .ok (.getfield 57, 3) := by decide +kernel
theorem dX2_enter_10 : decode cX2_enter 10 = .ok (.sipush 256, 3) := by decide +kernel
theorem dX2_enter_13 : decode cX2_enter 13 = .ok (.idiv, 1) := by decide +kernel
theorem dX2_enter_14 : decode cX2_enter 14 = .ok (.invokevirtual 201, 3) := by decide +kernel
theorem dX2_enter_17 : decode cX2_enter 17 = .ok (.aload_n 0, 1) := by decide +kernel
theorem dX2_enter_18 : decode cX2_enter 18 = .ok (.aload_n 0, 1) := by decide +kernel
theorem dX2_enter_19 : decode cX2_enter 19 = .ok (.getfield 57, 3) := by decide +kernel
theorem dX2_enter_22 : decode cX2_enter 22 = .ok (.sipush 256, 3) := by decide +kernel
theorem dX2_enter_25 : decode cX2_enter 25 = .ok (.irem, 1) := by decide +kernel
theorem dX2_enter_26 : decode cX2_enter 26 = .ok (.invokevirtual 201, 3) := by decide +kernel
theorem dX2_enter_29 : decode cX2_enter 29 = .ok (.aload_n 0, 1) := by decide +kernel
theorem dX2_enter_30 : decode cX2_enter 30 = .ok (.aload_n 0, 1) := by decide +kernel
theorem dX2_enter_31 : decode cX2_enter 31 = .ok (.getfield 50, 3) := by decide +kernel
theorem dX2_enter_34 : decode cX2_enter 34 = .ok (.invokevirtual 201, 3) := by decide +kernel
theorem dX2_enter_37 : decode cX2_enter 37 = .ok (.aload_n 0, 1) := by decide +kernel
theorem dX2_enter_38 : decode cX2_enter 38 = .ok (.dup, 1) := by decide +kernel
theorem dX2_enter_39 : decode cX2_enter 39 = .ok (.getfield 50, 3) := by decide +kernel
theorem dX2_enter_42 : decode cX2_enter 42 = .ok (.iconst 4, 1) := by decide +kernel
theorem dX2_enter_43 : decode cX2_enter 43 = .ok (.ior, 1) := by decide +kernel
theorem dX2_enter_44 : decode cX2_enter 44 = .ok (.putfield 50, 3) := by decide +kernel
theorem dX2_enter_47 : decode cX2_enter 47 = .ok (.aload_n 0, 1) := by decide +kernel
theorem dX2_enter_48 : decode cX2_enter 48 = .ok (.sipush 4080, 3) := by decide +kernel
theorem dX2_enter_51 : decode cX2_enter 51 = .ok (.iconst 2, 1) := by decide +kernel
theorem dX2_enter_52 : decode cX2_enter 52 = .ok (.iload_n 1, 1) := by decide +kernel
theorem dX2_enter_53 : decode cX2_enter 53 = .ok (.imul, 1) := by decide +kernel
theorem dX2_enter_54 : decode cX2_enter 54 = .ok (.iadd, 1) := by decide +kernel
theorem dX2_enter_55 : decode cX2_enter 55 = .ok (.invokevirtual 231, 3) := by decide +kernel
theorem dX2_enter_58 : decode cX2_enter 58 = .ok (.aload_n 0, 1) := by decide +kernel
theorem dX2_enter_59 : decode cX2_enter 59 = .ok (.sipush 4080, 3) := by decide +kernel
theorem dX2_enter_62 : decode cX2_enter 62 = .ok (.iconst 2, 1) := by decide +kernel
theorem dX2_enter_63 : decode cX2_enter 63 = .ok (.iload_n 1, 1) := by decide +kernel
theorem dX2_enter_64 : decode cX2_enter 64 = .ok (.imul, 1) := by decide +kernel
theorem dX2_enter_65 : decode cX2_enter 65 = .ok (.iadd, 1) := by decide +kernel
theorem dX2_enter_66 : decode cX2_enter 66 = .ok (.iconst 1, 1) := by decide +kernel
theorem dX2_enter_67 : decode cX2_enter 67 = .ok (.iadd, 1) := by decide +kernel
theorem dX2_enter_68 : decode cX2_enter 68 = .ok (.invokevirtual 231, 3) := by decide +kernel
theorem dX2_enter_71 : decode cX2_enter 71 = .ok (.aload_n 0, 1) := by decide +kernel
theorem dX2_enter_72 : decode cX2_enter 72 = .ok (.aload_n 0, 1) := by decide +kernel
theorem dX2_enter_73 : decode cX2_enter 73 = .ok (.iload_n 1, 1) := by decide +kernel
theorem dX2_enter_74 : decode cX2_enter 74 = .ok (.invokevirtual 53, 3) := by decide +kernel
theorem dX2_enter_77 : decode cX2_enter 77 = .ok (.putfield 57, 3) := by decide +kernel
theorem dX2_enter_80 : decode cX2_enter 80 = .ok (.return_, 1) := by decide +kernel
theorem dX2_beginCall_0 : decode cX2_beginCall 0 = .ok (.aload_n 0, 1) := by decide +kernel
theorem dX2_beginCall_1 : decode cX2_beginCall 1 = .ok (.getfield 69, 3) := by decide +kernel
theorem dX2_beginCall_4 : decode cX2_beginCall 4 = .ok (.bipush 40, 2) := by decide +kernel
theorem dX2_beginCall_6 : decode cX2_beginCall 6 = .ok (.if_icmp .lt 24, 3) := by decide +kernel
theorem dX2_beginCall_9 : decode cX2_beginCall 9 = .ok (.aload_n 0, 1) := by decide +kernel
theorem dX2_beginCall_10 : decode cX2_beginCall 10 = .ok (.getfield 18, 3) := by decide +kernel
theorem dX2_beginCall_13 : decode cX2_beginCall 13 = .ok (.iconst 1, 1) := by decide +kernel
theorem dX2_beginCall_14 : decode cX2_beginCall 14 = .ok (.aload_n 0, 1) := by decide +kernel
theorem dX2_beginCall_15 : decode cX2_beginCall 15 = .ok (.getfield 18, 3) := by decide +kernel
theorem dX2_beginCall_18 : decode cX2_beginCall 18 = .ok (.iconst 0, 1) := by decide +kernel
theorem dX2_beginCall_19 : decode cX2_beginCall 19 = .ok (.bipush 39, 2) := by decide +kernel
theorem dX2_beginCall_21 : decode cX2_beginCall 21 = .ok (.invokestatic 79, 3) := by decide +kernel
theorem dX2_beginCall_24 : decode cX2_beginCall 24 = .ok (.aload_n 0, 1) := by decide +kernel
theorem dX2_beginCall_25 : decode cX2_beginCall 25 = .ok (.bipush 39, 2) := by decide +kernel
theorem dX2_beginCall_27 : decode cX2_beginCall 27 = .ok (.putfield 69, 3) := by decide +kernel
theorem dX2_beginCall_30 : decode cX2_beginCall 30 = .ok (.aload_n 0, 1) := by decide +kernel
theorem dX2_beginCall_31 : decode cX2_beginCall 31 = .ok (.getfield 18, 3) := by decide +kernel
theorem dX2_beginCall_34 : decode cX2_beginCall 34 = .ok (.aload_n 0, 1) := by decide +kernel
theorem dX2_beginCall_35 : decode cX2_beginCall 35 = .ok (.getfield 69, 3) := by decide +kernel
theorem dX2_beginCall_38 : decode cX2_beginCall 38 = .ok (.iload_n 1, 1) := by decide +kernel
theorem dX2_beginCall_39 : decode cX2_beginCall 39 = .ok (.invokestatic 145, 3) := by decide +kernel
theorem dX2_beginCall_42 : decode cX2_beginCall 42 = .ok (.aload_n 0, 1) := by decide +kernel
theorem dX2_beginCall_43 : decode cX2_beginCall 43 = .ok (.dup, 1) := by decide +kernel
theorem dX2_beginCall_44 : decode cX2_beginCall 44 = .ok (.getfield 69, 3) := by decide +kernel
theorem dX2_beginCall_47 : decode cX2_beginCall 47 = .ok (.iconst 1, 1) := by decide +kernel
theorem dX2_beginCall_48 : decode cX2_beginCall 48 = .ok (.iadd, 1) := by decide +kernel
theorem dX2_beginCall_49 : decode cX2_beginCall 49 = .ok (.putfield 69, 3) := by decide +kernel
theorem dX2_beginCall_52 : decode cX2_beginCall 52 = .ok (.return_, 1) := by decide +kernel
theorem dX2_endCall_0 : decode cX2_endCall 0 = .ok (.aload_n 0, 1) := by decide +kernel
theorem dX2_endCall_1 : decode cX2_endCall 1 = .ok (.getfield 69, 3) := by decide +kernel
theorem dX2_endCall_4 : decode cX2_endCall 4 = .ok (.ifCond .le 13, 3) := by decide +kernel
theorem dX2_endCall_7 : decode cX2_endCall 7 = .ok (.aload_n 0, 1) := by decide +kernel
theorem dX2_endCall_8 : decode cX2_endCall 8 = .ok (.dup, 1) := by decide +kernel
theorem dX2_endCall_9 : decode cX2_endCall 9 = .ok (.getfield 69, 3) := by decide +kernel
theorem dX2_endCall_12 : decode cX2_endCall 12 = .ok (.iconst 1, 1) := by decide +kernel
theorem dX2_endCall_13 : decode cX2_endCall 13 = .ok (.isub, 1) := by decide +kernel
theorem dX2_endCall_14 : decode cX2_endCall 14 = .ok (.putfield 69, 3) := by decide +kernel
theorem dX2_endCall_17 : decode cX2_endCall 17 = .ok (.return_, 1) := by decide +kernel
theorem dX2_touch_0 : decode cX2_touch 0 = .ok (.aload_n 0, 1) := by decide +kernel
theorem dX2_touch_1 : decode cX2_touch 1 = .ok (.getfield 21, 3) := by decide +kernel
theorem dX2_touch_4 : decode cX2_touch 4 = .ok (.aload_n 0, 1) := by decide +kernel
theorem dX2_touch_5 : decode cX2_touch 5 = .ok (.getfield 72, 3) := by decide +kernel
theorem dX2_touch_8 : decode cX2_touch 8 = .ok (.iload_n 1, 1) := by decide +kernel
theorem dX2_touch_9 : decode cX2_touch 9 = .ok (.invokestatic 145, 3) := by decide +kernel
theorem dX2_touch_12 : decode cX2_touch 12 = .ok (.aload_n 0, 1) := by decide +kernel
theorem dX2_touch_13 : decode cX2_touch 13 = .ok (.dup, 1) := by decide +kernel
theorem dX2_touch_14 : decode cX2_touch 14 = .ok (.getfield 72, 3) := by decide +kernel
theorem dX2_touch_17 : decode cX2_touch 17 = .ok (.iconst 1, 1) := by decide +kernel
theorem dX2_touch_18 : decode cX2_touch 18 = .ok (.iadd, 1) := by decide +kernel
theorem dX2_touch_19 : decode cX2_touch 19 = .ok (.putfield 72, 3) := by decide +kernel
theorem dX2_touch_22 : decode cX2_touch 22 = .ok (.return_, 1) := by decide +kernel
theorem dX2_read_0 : decode cX2_read 0 = .ok (.aload_n 0, 1) := by decide +kernel
theorem dX2_read_1 : decode cX2_read 1 = .ok (.iload_n 1, 1) := by decide +kernel
theorem dX2_read_2 : decode cX2_read 2 = .ok (.invokevirtual 231, 3) := by decide +kernel
theorem dX2_read_5 : decode cX2_read 5 = .ok (.iload_n 1, 1) := by decide +kernel
theorem dX2_read_6 : decode cX2_read 6 = .ok (.invokestatic 240, 3) := by decide +kernel
theorem dX2_read_9 : decode cX2_read 9 = .ok (.ifCond .eq 22, 3) := by decide +kernel
theorem dX2_read_12 : decode cX2_read 12 = .ok (.aload_n 0, 1) := by decide +kernel
theorem dX2_read_13 : decode cX2_read 13 = .ok (.getfield 27, 3) := by decide +kernel
theorem dX2_read_16 : decode cX2_read 16 = .ok (.iload_n 1, 1) := by decide +kernel
theorem dX2_read_17 : decode cX2_read 17 = .ok (.sipush 1792, 3) := by decide +kernel
theorem dX2_read_20 : decode cX2_read 20 = .ok (.isub, 1) := by decide +kernel
theorem dX2_read_21 : decode cX2_read 21 = .ok (.aload_n 0, 1) := by decide +kernel
theorem dX2_read_22 : decode cX2_read 22 = .ok (.getfield 63, 3) := by decide +kernel
theorem dX2_read_25 : decode cX2_read 25 = .ok (.invokevirtual 244, 3) := by decide +kernel
theorem dX2_read_28 : decode cX2_read 28 = .ok (.goto 8, 3) := by decide +kernel
theorem dX2_read_31 : decode cX2_read 31 = .ok (.aload_n 0, 1) := by decide +kernel
theorem dX2_read_32 : decode cX2_read 32 = .ok (.iload_n 1, 1) := by decide +kernel
theorem dX2_read_33 : decode cX2_read 33 = .ok (.invokevirtual 100, 3) := by decide +kernel
theorem dX2_read_36 : decode cX2_read 36 = .ok (.ireturn, 1) := by decide +kernel
theorem dX2_write_0 : decode cX2_write 0 = .ok (.aload_n 0, 1) := by decide +kernel
theorem dX2_write_1 : decode cX2_write 1 = .ok (.iload_n 1, 1) := by decide +kernel
theorem dX2_write_2 : decode cX2_write 2 = .ok (.sipush 4096, 3) := by decide +kernel
theorem dX2_write_5 : decode cX2_write 5 = .ok (.iadd, 1) := by decide +kernel
theorem dX2_write_6 : decode cX2_write 6 = .ok (.invokevirtual 231, 3) := by decide +kernel
theorem dX2_write_9 : decode cX2_write 9 = .ok (.iload_n 1, 1) := by decide +kernel
theorem dX2_write_10 : decode cX2_write 10 = .ok (.invokestatic 240, 3) := by decide +kernel
theorem dX2_write_13 : decode cX2_write 13 = .ok (.ifCond .eq 19, 3) := by decide +kernel
theorem dX2_write_16 : decode cX2_write 16 = .ok (.aload_n 0, 1) := by decide +kernel
theorem dX2_write_17 : decode cX2_write 17 = .ok (.getfield 27, 3) := by decide +kernel
theorem dX2_write_20 : decode cX2_write 20 = .ok (.iload_n 1, 1) := by decide +kernel
theorem dX2_write_21 : decode cX2_write 21 = .ok (.sipush 1792, 3) := by decide +kernel
theorem dX2_write_24 : decode cX2_write 24 = .ok (.isub, 1) := by decide +kernel
theorem dX2_write_25 : decode cX2_write 25 = .ok (.iload_n 2, 1) := by decide +kernel
theorem dX2_write_26 : decode cX2_write 26 = .ok (.invokevirtual 246, 3) := by decide +kernel
theorem dX2_write_29 : decode cX2_write 29 = .ok (.goto 9, 3) := by decide +kernel
theorem dX2_write_32 : decode cX2_write 32 = .ok (.aload_n 0, 1) := by decide +kernel
theorem dX2_write_33 : decode cX2_write 33 = .ok (.iload_n 1, 1) := by decide +kernel
theorem dX2_write_34 : decode cX2_write 34 = .ok (.iload_n 2, 1) := by decide +kernel
theorem dX2_write_35 : decode cX2_write 35 = .ok (.invokevirtual 247, 3) := by decide +kernel
theorem dX2_write_38 : decode cX2_write 38 = .ok (.return_, 1) := by decide +kernel
theorem dX2_store_0 : decode cX2_store 0 = .ok (.iload_n 1, 1) := by decide +kernel
theorem dX2_store_1 : decode cX2_store 1 = .ok (.aload_n 0, 1) := by decide +kernel
theorem dX2_store_2 : decode cX2_store 2 = .ok (.getfield 27, 3) := by decide +kernel
theorem dX2_store_5 : decode cX2_store 5 = .ok (.getfield 89, 3) := by decide +kernel
theorem dX2_store_8 : decode cX2_store 8 = .ok (.invokestatic 92, 3) := by decide +kernel
theorem dX2_store_11 : decode cX2_store 11 = .ok (.istore_n 3, 1) := by decide +kernel
theorem dX2_store_12 : decode cX2_store 12 = .ok (.iload_n 3, 1) := by decide +kernel
theorem dX2_store_13 : decode cX2_store 13 = .ok (.sipush 5888, 3) := by decide +kernel
theorem dX2_store_16 : decode cX2_store 16 = .ok (.if_icmp .ge 12, 3) := by decide +kernel
theorem dX2_store_19 : decode cX2_store 19 = .ok (.aload_n 0, 1) := by decide +kernel
theorem dX2_store_20 : decode cX2_store 20 = .ok (.getfield 9, 3) := by decide +kernel
theorem dX2_store_23 : decode cX2_store 23 = .ok (.iload_n 3, 1) := by decide +kernel
theorem dX2_store_24 : decode cX2_store 24 = .ok (.iload_n 2, 1) := by decide +kernel
theorem dX2_store_25 : decode cX2_store 25 = .ok (.invokestatic 145, 3) := by decide +kernel
theorem dX2_store_28 : decode cX2_store 28 = .ok (.return_, 1) := by decide +kernel
theorem dX2_push_0 : decode cX2_push 0 = .ok (.aload_n 0, 1) := by decide +kernel
theorem dX2_push_1 : decode cX2_push 1 = .ok (.getfield 21, 3) := by decide +kernel
theorem dX2_push_4 : decode cX2_push 4 = .ok (.aload_n 0, 1) := by decide +kernel
theorem dX2_push_5 : decode cX2_push 5 = .ok (.getfield 72, 3) := by decide +kernel
theorem dX2_push_8 : decode cX2_push 8 = .ok (.sipush 256, 3) := by decide +kernel
theorem dX2_push_11 : decode cX2_push 11 = .ok (.aload_n 0, 1) := by decide +kernel
theorem dX2_push_12 : decode cX2_push 12 = .ok (.getfield 47, 3) := by decide +kernel
theorem dX2_push_15 : decode cX2_push 15 = .ok (.iadd, 1) := by decide +kernel
theorem dX2_push_16 : decode cX2_push 16 = .ok (.sipush 4096, 3) := by decide +kernel
theorem dX2_push_19 : decode cX2_push 19 = .ok (.iadd, 1) := by decide +kernel
theorem dX2_push_20 : decode cX2_push 20 = .ok (.invokestatic 145, 3) := by decide +kernel
theorem dX2_push_23 : decode cX2_push 23 = .ok (.aload_n 0, 1) := by decide +kernel
theorem dX2_push_24 : decode cX2_push 24 = .ok (.dup, 1) := by decide +kernel
theorem dX2_push_25 : decode cX2_push 25 = .ok (.getfield 72, 3) := by decide +kernel
theorem dX2_push_28 : decode cX2_push 28 = .ok (.iconst 1, 1) := by decide +kernel
theorem dX2_push_29 : decode cX2_push 29 = .ok (.iadd, 1) := by decide +kernel
theorem dX2_push_30 : decode cX2_push 30 = .ok (.putfield 72, 3) := by decide +kernel
theorem dX2_push_33 : decode cX2_push 33 = .ok (.aload_n 0, 1) := by decide +kernel
theorem dX2_push_34 : decode cX2_push 34 = .ok (.getfield 9, 3) := by decide +kernel
theorem dX2_push_37 : decode cX2_push 37 = .ok (.sipush 256, 3) := by decide +kernel
theorem dX2_push_40 : decode cX2_push 40 = .ok (.aload_n 0, 1) := by decide +kernel
theorem dX2_push_41 : decode cX2_push 41 = .ok (.getfield 47, 3) := by decide +kernel
theorem dX2_push_44 : decode cX2_push 44 = .ok (.iadd, 1) := by decide +kernel
theorem dX2_push_45 : decode cX2_push 45 = .ok (.iload_n 1, 1) := by decide +kernel
theorem dX2_push_46 : decode cX2_push 46 = .ok (.invokestatic 145, 3) := by decide +kernel
theorem dX2_push_49 : decode cX2_push 49 = .ok (.aload_n 0, 1) := by decide +kernel
theorem dX2_push_50 : decode cX2_push 50 = .ok (.aload_n 0, 1) := by decide +kernel
theorem dX2_push_51 : decode cX2_push 51 = .ok (.getfield 47, 3) := by decide +kernel
theorem dX2_push_54 : decode cX2_push 54 = .ok (.iconst 1, 1) := by decide +kernel
theorem dX2_push_55 : decode cX2_push 55 = .ok (.isub, 1) := by decide +kernel
theorem dX2_push_56 : decode cX2_push 56 = .ok (.sipush 255, 3) := by decide +kernel
theorem dX2_push_59 : decode cX2_push 59 = .ok (.iand, 1) := by decide +kernel
theorem dX2_push_60 : decode cX2_push 60 = .ok (.putfield 47, 3) := by decide +kernel
theorem dX2_push_63 : decode cX2_push 63 = .ok (.return_, 1) := by decide +kernel
theorem dX2_pull_0 : decode cX2_pull 0 = .ok (.aload_n 0, 1) := by decide +kernel
theorem dX2_pull_1 : decode cX2_pull 1 = .ok (.aload_n 0, 1) := by decide +kernel
theorem dX2_pull_2 : decode cX2_pull 2 = .ok (.getfield 47, 3) := by decide +kernel
theorem dX2_pull_5 : decode cX2_pull 5 = .ok (.iconst 1, 1) := by decide +kernel
theorem dX2_pull_6 : decode cX2_pull 6 = .ok (.iadd, 1) := by decide +kernel
theorem dX2_pull_7 : decode cX2_pull 7 = .ok (.sipush 255, 3) := by decide +kernel
theorem dX2_pull_10 : decode cX2_pull 10 = .ok (.iand, 1) := by decide +kernel
theorem dX2_pull_11 : decode cX2_pull 11 = .ok (.putfield 47, 3) := by decide +kernel
theorem dX2_pull_14 : decode cX2_pull 14 = .ok (.aload_n 0, 1) := by decide +kernel
theorem dX2_pull_15 : decode cX2_pull 15 = .ok (.getfield 21, 3) := by decide +kernel
theorem dX2_pull_18 : decode cX2_pull 18 = .ok (.aload_n 0, 1) := by decide +kernel
theorem dX2_pull_19 : decode cX2_pull 19 = .ok (.getfield 72, 3) := by decide +kernel
theorem dX2_pull_22 : decode cX2_pull 22 = .ok (.sipush 256, 3) := by decide +kernel
theorem dX2_pull_25 : decode cX2_pull 25 = .ok (.aload_n 0, 1) := by decide +kernel
theorem dX2_pull_26 : decode cX2_pull 26 = .ok (.getfield 47, 3) := by decide +kernel
theorem dX2_pull_29 : decode cX2_pull 29 = .ok (.iadd, 1) := by decide +kernel
theorem dX2_pull_30 : decode cX2_pull 30 = .ok (.invokestatic 145, 3) := by decide +kernel
theorem dX2_pull_33 : decode cX2_pull 33 = .ok (.aload_n 0, 1) := by decide +kernel
theorem dX2_pull_34 : decode cX2_pull 34 = .ok (.dup, 1) := by decide +kernel
theorem dX2_pull_35 : decode cX2_pull 35 = .ok (.getfield 72, 3) := by decide +kernel
theorem dX2_pull_38 : decode cX2_pull 38 = .ok (.iconst 1, 1) := by decide +kernel
theorem dX2_pull_39 : decode cX2_pull 39 = .ok (.iadd, 1) := by decide +kernel
theorem dX2_pull_40 : decode cX2_pull 40 = .ok (.putfield 72, 3) := by decide +kernel
theorem dX2_pull_43 : decode cX2_pull 43 = .ok (.aload_n 0, 1) := by decide +kernel
theorem dX2_pull_44 : decode cX2_pull 44 = .ok (.getfield 9, 3) := by decide +kernel
theorem dX2_pull_47 : decode cX2_pull 47 = .ok (.sipush 256, 3) := by decide +kernel
theorem dX2_pull_50 : decode cX2_pull 50 = .ok (.aload_n 0, 1) := by decide +kernel
theorem dX2_pull_51 : decode cX2_pull 51 = .ok (.getfield 47, 3) := by decide +kernel
theorem dX2_pull_54 : decode cX2_pull 54 = .ok (.iadd, 1) := by decide +kernel
theorem dX2_pull_55 : decode cX2_pull 55 = .ok (.invokestatic 96, 3) := by decide +kernel
theorem dX2_pull_58 : decode cX2_pull 58 = .ok (.ireturn, 1) := by decide +kernel
theorem dX2_pushAddress_0 : decode cX2_pushAddress 0 = .ok (.aload_n 0, 1) := by decide +kernel
theorem dX2_pushAddress_1 : decode cX2_pushAddress 1 = .ok (.iload_n 1, 1) := by decide +kernel
theorem dX2_pushAddress_2 : decode cX2_pushAddress 2 = .ok (.sipush 256, 3) := by decide +kernel
theorem dX2_pushAddress_5 : decode cX2_pushAddress 5 = .ok (.idiv, 1) := by decide +kernel
theorem dX2_pushAddress_6 : decode cX2_pushAddress 6 = .ok (.invokevirtual 201, 3) := by decide +kernel
theorem dX2_pushAddress_9 : decode cX2_pushAddress 9 = .ok (.aload_n 0, 1) := by decide +kernel
theorem dX2_pushAddress_10 : decode cX2_pushAddress 10 = .ok (.iload_n 1, 1) := by decide +kernel
theorem dX2_pushAddress_11 : decode cX2_pushAddress 11 = .ok (.sipush 256, 3) := by decide +kernel
theorem dX2_pushAddress_14 : decode cX2_pushAddress 14 = .ok (.irem, 1) := by decide +kernel
theorem dX2_pushAddress_15 : decode cX2_pushAddress 15 = .ok (.invokevirtual 201, 3) := by decide +kernel
theorem dX2_pushAddress_18 : decode cX2_pushAddress 18 = .ok (.return_, 1) := by decide +kernel
theorem dX2_pullAddress_0 : decode cX2_pullAddress 0 = .ok (.aload_n 0, 1) := by decide +kernel
theorem dX2_pullAddress_1 : decode cX2_pullAddress 1 = .ok (.invokevirtual 188, 3) := by decide +kernel
theorem dX2_pullAddress_4 : decode cX2_pullAddress 4 = .ok (.istore_n 1, 1) := by decide +kernel
theorem dX2_pullAddress_5 : decode cX2_pullAddress 5 = .ok (.iload_n 1, 1) := by decide +kernel
theorem dX2_pullAddress_6 : decode cX2_pullAddress 6 = .ok (.sipush 256, 3) := by decide +kernel
theorem dX2_pullAddress_9 : decode cX2_pullAddress 9 = .ok (.aload_n 0, 1) := by decide +kernel
theorem dX2_pullAddress_10 : decode cX2_pullAddress 10 = .ok (.invokevirtual 188, 3) := by decide +kernel
theorem dX2_pullAddress_13 : decode cX2_pullAddress 13 = .ok (.imul, 1) := by decide +kernel
theorem dX2_pullAddress_14 : decode cX2_pullAddress 14 = .ok (.iadd, 1) := by decide +kernel
theorem dX2_pullAddress_15 : decode cX2_pullAddress 15 = .ok (.sipush 4095, 3) := by decide +kernel
theorem dX2_pullAddress_18 : decode cX2_pullAddress 18 = .ok (.iand, 1) := by decide +kernel
theorem dX2_pullAddress_19 : decode cX2_pullAddress 19 = .ok (.ireturn, 1) := by decide +kernel
theorem dX2_copy_0 : decode cX2_copy 0 = .ok (.iconst 0, 1) := by decide +kernel
theorem dX2_copy_1 : decode cX2_copy 1 = .ok (.istore_n 2, 1) := by decide +kernel
theorem dX2_copy_2 : decode cX2_copy 2 = .ok (.iload_n 2, 1) := by decide +kernel
theorem dX2_copy_3 : decode cX2_copy 3 = .ok (.iload_n 1, 1) := by decide +kernel
theorem dX2_copy_4 : decode cX2_copy 4 = .ok (.if_icmp .ge 39, 3) := by decide +kernel
theorem dX2_copy_7 : decode cX2_copy 7 = .ok (.aload_n 0, 1) := by decide +kernel
theorem dX2_copy_8 : decode cX2_copy 8 = .ok (.aload_n 0, 1) := by decide +kernel
theorem dX2_copy_9 : decode cX2_copy 9 = .ok (.getfield 27, 3) := by decide +kernel
theorem dX2_copy_12 : decode cX2_copy 12 = .ok (.getfield 250, 3) := by decide +kernel
theorem dX2_copy_15 : decode cX2_copy 15 = .ok (.iload_n 2, 1) := by decide +kernel
theorem dX2_copy_16 : decode cX2_copy 16 = .ok (.iadd, 1) := by decide +kernel
theorem dX2_copy_17 : decode cX2_copy 17 = .ok (.sipush 4095, 3) := by decide +kernel
theorem dX2_copy_20 : decode cX2_copy 20 = .ok (.iand, 1) := by decide +kernel
theorem dX2_copy_21 : decode cX2_copy 21 = .ok (.aload_n 0, 1) := by decide +kernel
theorem dX2_copy_22 : decode cX2_copy 22 = .ok (.aload_n 0, 1) := by decide +kernel
theorem dX2_copy_23 : decode cX2_copy 23 = .ok (.getfield 27, 3) := by decide +kernel
theorem dX2_copy_26 : decode cX2_copy 26 = .ok (.getfield 253, 3) := by decide +kernel
theorem dX2_copy_29 : decode cX2_copy 29 = .ok (.iload_n 2, 1) := by decide +kernel
theorem dX2_copy_30 : decode cX2_copy 30 = .ok (.iadd, 1) := by decide +kernel
theorem dX2_copy_31 : decode cX2_copy 31 = .ok (.invokevirtual 100, 3) := by decide +kernel
theorem dX2_copy_34 : decode cX2_copy 34 = .ok (.invokevirtual 247, 3) := by decide +kernel
theorem dX2_copy_37 : decode cX2_copy 37 = .ok (.iinc 2 1, 3) := by decide +kernel
theorem dX2_copy_40 : decode cX2_copy 40 = .ok (.goto (-38), 3) := by decide +kernel
theorem dX2_copy_43 : decode cX2_copy 43 = .ok (.aload_n 0, 1) := by decide +kernel
theorem dX2_copy_44 : decode cX2_copy 44 = .ok (.dup, 1) := by decide +kernel
theorem dX2_copy_45 : decode cX2_copy 45 = .ok (.getfield 122, 3) := by decide +kernel
theorem dX2_copy_48 : decode cX2_copy 48 = .ok (.iconst 2, 1) := by decide +kernel
theorem dX2_copy_49 : decode cX2_copy 49 = .ok (.iload_n 1, 1) := by decide +kernel
theorem dX2_copy_50 : decode cX2_copy 50 = .ok (.imul, 1) := by decide +kernel
theorem dX2_copy_51 : decode cX2_copy 51 = .ok (.iadd, 1) := by decide +kernel
theorem dX2_copy_52 : decode cX2_copy 52 = .ok (.putfield 122, 3) := by decide +kernel
theorem dX2_copy_55 : decode cX2_copy 55 = .ok (.aload_n 0, 1) := by decide +kernel
theorem dX2_copy_56 : decode cX2_copy 56 = .ok (.getfield 27, 3) := by decide +kernel
theorem dX2_copy_59 : decode cX2_copy 59 = .ok (.dup, 1) := by decide +kernel
theorem dX2_copy_60 : decode cX2_copy 60 = .ok (.getfield 256, 3) := by decide +kernel
theorem dX2_copy_63 : decode cX2_copy 63 = .ok (.bipush 8, 2) := by decide +kernel
theorem dX2_copy_65 : decode cX2_copy 65 = .ok (.ior, 1) := by decide +kernel
theorem dX2_copy_66 : decode cX2_copy 66 = .ok (.putfield 256, 3) := by decide +kernel
theorem dX2_copy_69 : decode cX2_copy 69 = .ok (.return_, 1) := by decide +kernel
theorem dX3_init_0 : decode cX3_init 0 = .ok (.aload_n 0, 1) := by decide +kernel
theorem dX3_init_1 : decode cX3_init 1 = .ok (.invokespecial 3, 3) := by decide +kernel
theorem dX3_init_4 : decode cX3_init 4 = .ok (.aload_n 0, 1) := by decide +kernel
theorem dX3_init_5 : decode cX3_init 5 = .ok (.bipush 120, 2) := by decide +kernel
theorem dX3_init_7 : decode cX3_init 7 = .ok (.newarray .long, 2) := by decide +kernel
theorem dX3_init_9 : decode cX3_init 9 = .ok (.putfield 9, 3) := by decide +kernel
theorem dX3_init_12 : decode cX3_init 12 = .ok (.aload_n 0, 1) := by decide +kernel
theorem dX3_init_13 : decode cX3_init 13 = .ok (.bipush 120, 2) := by decide +kernel
theorem dX3_init_15 : decode cX3_init 15 = .ok (.newarray .int, 2) := by decide +kernel
theorem dX3_init_17 : decode cX3_init 17 = .ok (.putfield 15, 3) := by decide +kernel
theorem dX3_init_20 : decode cX3_init 20 = .ok (.aload_n 0, 1) := by decide +kernel
theorem dX3_init_21 : decode cX3_init 21 = .ok (.bipush 120, 2) := by decide +kernel
theorem dX3_init_23 : decode cX3_init 23 = .ok (.newarray .int, 2) := by decide +kernel
theorem dX3_init_25 : decode cX3_init 25 = .ok (.putfield 19, 3) := by decide +kernel
theorem dX3_init_28 : decode cX3_init 28 = .ok (.return_, 1) := by decide +kernel
theorem dX3_begin_0 : decode cX3_begin 0 = .ok (.aload_n 0, 1) := by decide +kernel
theorem dX3_begin_1 : decode cX3_begin 1 = .ok (.iconst 0, 1) := by decide +kernel
theorem dX3_begin_2 : decode cX3_begin 2 = .ok (.putfield 22, 3) := by decide +kernel
theorem dX3_begin_5 : decode cX3_begin 5 = .ok (.return_, 1) := by decide +kernel
theorem dX3_find_0 : decode cX3_find 0 = .ok (.iconst 0, 1) := by decide +kernel
theorem dX3_find_1 : decode cX3_find 1 = .ok (.istore_n 3, 1) := by decide +kernel
theorem dX3_find_2 : decode cX3_find 2 = .ok (.iload_n 3, 1) := by decide +kernel
theorem dX3_find_3 : decode cX3_find 3 = .ok (.aload_n 0, 1) := by decide +kernel
theorem dX3_find_4 : decode cX3_find 4 = .ok (.getfield 22, 3) := by decide +kernel
theorem dX3_find_7 : decode cX3_find 7 = .ok (.if_icmp .ge 31, 3) := by decide +kernel
theorem dX3_find_10 : decode cX3_find 10 = .ok (.iload_n 3, 1) := by decide +kernel
theorem dX3_find_11 : decode cX3_find 11 = .ok (.aload_n 0, 1) := by decide +kernel
theorem dX3_find_12 : decode cX3_find 12 = .ok (.getfield 9, 3) := by decide +kernel
theorem dX3_find_15 : decode cX3_find 15 = .ok (.arraylength, 1) := by decide +kernel
theorem dX3_find_16 : decode cX3_find 16 = .ok (.if_icmp .ge 22, 3) := by decide +kernel
theorem dX3_find_19 : decode cX3_find 19 = .ok (.aload_n 0, 1) := by decide +kernel
theorem dX3_find_20 : decode cX3_find 20 = .ok (.getfield 9, 3) := by decide +kernel
theorem dX3_find_23 : decode cX3_find 23 = .ok (.iload_n 3, 1) := by decide +kernel
theorem dX3_find_24 : decode cX3_find 24 = .ok (.laload, 1) := by decide +kernel
theorem dX3_find_25 : decode cX3_find 25 = .ok (.lload_n 1, 1) := by decide +kernel
theorem dX3_find_26 : decode cX3_find 26 = .ok (.lcmp, 1) := by decide +kernel
theorem dX3_find_27 : decode cX3_find 27 = .ok (.ifCond .ne 5, 3) := by decide +kernel
theorem dX3_find_30 : decode cX3_find 30 = .ok (.iload_n 3, 1) := by decide +kernel
theorem dX3_find_31 : decode cX3_find 31 = .ok (.ireturn, 1) := by decide +kernel
theorem dX3_find_32 : decode cX3_find 32 = .ok (.iinc 3 1, 3) := by decide +kernel
theorem dX3_find_35 : decode cX3_find 35 = .ok (.goto (-33), 3) := by decide +kernel
theorem dX3_find_38 : decode cX3_find 38 = .ok (.iconst (-1), 1) := by decide +kernel
theorem dX3_find_39 : decode cX3_find 39 = .ok (.ireturn, 1) := by decide +kernel
theorem dX3_define_0 : decode cX3_define 0 = .ok (.aload_n 0, 1) := by decide +kernel
theorem dX3_define_1 : decode cX3_define 1 = .ok (.getfield 9, 3) := by decide +kernel
theorem dX3_define_4 : decode cX3_define 4 = .ok (.aload_n 0, 1) := by decide +kernel
theorem dX3_define_5 : decode cX3_define 5 = .ok (.getfield 22, 3) := by decide +kernel
theorem dX3_define_8 : decode cX3_define 8 = .ok (.lload_n 1, 1) := by decide +kernel
theorem dX3_define_9 : decode cX3_define 9 = .ok (.invokestatic 26, 3) := by decide +kernel
theorem dX3_define_12 : decode cX3_define 12 = .ok (.aload_n 0, 1) := by decide +kernel
theorem dX3_define_13 : decode cX3_define 13 = .ok (.getfield 15, 3) := by decide +kernel
theorem dX3_define_16 : decode cX3_define 16 = .ok (.aload_n 0, 1) := by decide +kernel
theorem dX3_define_17 : decode cX3_define 17 = .ok (.getfield 22, 3) := by decide +kernel
theorem dX3_define_20 : decode cX3_define 20 = .ok (.iload_n 3, 1) := by decide +kernel
theorem dX3_define_21 : decode cX3_define 21 = .ok (.invokestatic 30, 3) := by decide +kernel
theorem dX3_define_24 : decode cX3_define 24 = .ok (.aload_n 0, 1) := by decide +kernel
theorem dX3_define_25 : decode cX3_define 25 = .ok (.dup, 1) := by decide +kernel
theorem dX3_define_26 : decode cX3_define 26 = .ok (.getfield 22, 3) := by decide +kernel
theorem dX3_define_29 : decode cX3_define 29 = .ok (.iconst 1, 1) := by decide +kernel
theorem dX3_define_30 : decode cX3_define 30 = .ok (.iadd, 1) := by decide +kernel
theorem dX3_define_31 : decode cX3_define 31 = .ok (.putfield 22, 3) := by decide +kernel
theorem dX3_define_34 : decode cX3_define 34 = .ok (.return_, 1) := by decide +kernel
theorem dX3_keep_0 : decode cX3_keep 0 = .ok (.aload_n 0, 1) := by decide +kernel
theorem dX3_keep_1 : decode cX3_keep 1 = .ok (.getfield 15, 3) := by decide +kernel
theorem dX3_keep_4 : decode cX3_keep 4 = .ok (.iconst 0, 1) := by decide +kernel
theorem dX3_keep_5 : decode cX3_keep 5 = .ok (.aload_n 0, 1) := by decide +kernel
theorem dX3_keep_6 : decode cX3_keep 6 = .ok (.getfield 19, 3) := by decide +kernel
theorem dX3_keep_9 : decode cX3_keep 9 = .ok (.iconst 0, 1) := by decide +kernel
theorem dX3_keep_10 : decode cX3_keep 10 = .ok (.bipush 120, 2) := by decide +kernel
theorem dX3_keep_12 : decode cX3_keep 12 = .ok (.invokestatic 33, 3) := by decide +kernel
theorem dX3_keep_15 : decode cX3_keep 15 = .ok (.aload_n 0, 1) := by decide +kernel
theorem dX3_keep_16 : decode cX3_keep 16 = .ok (.aload_n 0, 1) := by decide +kernel
theorem dX3_keep_17 : decode cX3_keep 17 = .ok (.getfield 22, 3) := by decide +kernel
theorem dX3_keep_20 : decode cX3_keep 20 = .ok (.putfield 39, 3) := by decide +kernel
theorem dX3_keep_23 : decode cX3_keep 23 = .ok (.return_, 1) := by decide +kernel
theorem dX3_nearest_0 : decode cX3_nearest 0 = .ok (.iconst (-1), 1) := by decide +kernel
theorem dX3_nearest_1 : decode cX3_nearest 1 = .ok (.istore_n 2, 1) := by decide +kernel
theorem dX3_nearest_2 : decode cX3_nearest 2 = .ok (.iconst (-1), 1) := by decide +kernel
theorem dX3_nearest_3 : decode cX3_nearest 3 = .ok (.istore_n 3, 1) := by decide +kernel
theorem dX3_nearest_4 : decode cX3_nearest 4 = .ok (.iconst 0, 1) := by decide +kernel
theorem dX3_nearest_5 : decode cX3_nearest 5 = .ok (.istore 4, 2) := by decide +kernel
theorem dX3_nearest_7 : decode cX3_nearest 7 = .ok (.iload 4, 2) := by decide +kernel
theorem dX3_nearest_9 : decode cX3_nearest 9 = .ok (.aload_n 0, 1) := by decide +kernel
theorem dX3_nearest_10 : decode cX3_nearest 10 = .ok (.getfield 39, 3) := by decide +kernel
theorem dX3_nearest_13 : decode cX3_nearest 13 = .ok (.if_icmp .ge 38, 3) := by decide +kernel
theorem dX3_nearest_16 : decode cX3_nearest 16 = .ok (.aload_n 0, 1) := by decide +kernel
theorem dX3_nearest_17 : decode cX3_nearest 17 = .ok (.getfield 19, 3) := by decide +kernel
theorem dX3_nearest_20 : decode cX3_nearest 20 = .ok (.iload 4, 2) := by decide +kernel
theorem dX3_nearest_22 : decode cX3_nearest 22 = .ok (.invokestatic 42, 3) := by decide +kernel
theorem dX3_nearest_25 : decode cX3_nearest 25 = .ok (.istore 5, 2) := by decide +kernel
theorem dX3_nearest_27 : decode cX3_nearest 27 = .ok (.iload 5, 2) := by decide +kernel
theorem dX3_nearest_29 : decode cX3_nearest 29 = .ok (.iload_n 3, 1) := by decide +kernel
theorem dX3_nearest_30 : decode cX3_nearest 30 = .ok (.if_icmp .le 15, 3) := by decide +kernel
theorem dX3_nearest_33 : decode cX3_nearest 33 = .ok (.iload 5, 2) := by decide +kernel
theorem dX3_nearest_35 : decode cX3_nearest 35 = .ok (.iload_n 1, 1) := by decide +kernel
theorem dX3_nearest_36 : decode cX3_nearest 36 = .ok (.if_icmp .gt 9, 3) := by decide +kernel
theorem dX3_nearest_39 : decode cX3_nearest 39 = .ok (.iload 5, 2) := by decide +kernel
theorem dX3_nearest_41 : decode cX3_nearest 41 = .ok (.istore_n 3, 1) := by decide +kernel
theorem dX3_nearest_42 : decode cX3_nearest 42 = .ok (.iload 4, 2) := by decide +kernel
theorem dX3_nearest_44 : decode cX3_nearest 44 = .ok (.istore_n 2, 1) := by decide +kernel
theorem dX3_nearest_45 : decode cX3_nearest 45 = .ok (.iinc 4 1, 3) := by decide +kernel
theorem dX3_nearest_48 : decode cX3_nearest 48 = .ok (.goto (-41), 3) := by decide +kernel
theorem dX3_nearest_51 : decode cX3_nearest 51 = .ok (.iload_n 2, 1) := by decide +kernel
theorem dX3_nearest_52 : decode cX3_nearest 52 = .ok (.ireturn, 1) := by decide +kernel
theorem dX3_mix_0 : decode cX3_mix 0 = .ok (.lload_n 1, 1) := by decide +kernel
theorem dX3_mix_1 : decode cX3_mix 1 = .ok (.ldc2_w 46, 3) := by decide +kernel
theorem dX3_mix_4 : decode cX3_mix 4 = .ok (.lmul, 1) := by decide +kernel
theorem dX3_mix_5 : decode cX3_mix 5 = .ok (.aload_n 0, 1) := by decide +kernel
theorem dX3_mix_6 : decode cX3_mix 6 = .ok (.getfield 39, 3) := by decide +kernel
theorem dX3_mix_9 : decode cX3_mix 9 = .ok (.i2l, 1) := by decide +kernel
theorem dX3_mix_10 : decode cX3_mix 10 = .ok (.ladd, 1) := by decide +kernel
theorem dX3_mix_11 : decode cX3_mix 11 = .ok (.lstore_n 1, 1) := by decide +kernel
theorem dX3_mix_12 : decode cX3_mix 12 = .ok (.iconst 0, 1) := by decide +kernel
theorem dX3_mix_13 : decode cX3_mix 13 = .ok (.istore_n 3, 1) := by decide +kernel
theorem dX3_mix_14 : decode cX3_mix 14 = .ok (.iload_n 3, 1) := by decide +kernel
theorem dX3_mix_15 : decode cX3_mix 15 = .ok (.aload_n 0, 1) := by decide +kernel
theorem dX3_mix_16 : decode cX3_mix 16 = .ok (.getfield 39, 3) := by decide +kernel
theorem dX3_mix_19 : decode cX3_mix 19 = .ok (.if_icmp .ge 25, 3) := by decide +kernel
theorem dX3_mix_22 : decode cX3_mix 22 = .ok (.lload_n 1, 1) := by decide +kernel
theorem dX3_mix_23 : decode cX3_mix 23 = .ok (.ldc2_w 46, 3) := by decide +kernel
theorem dX3_mix_26 : decode cX3_mix 26 = .ok (.lmul, 1) := by decide +kernel
theorem dX3_mix_27 : decode cX3_mix 27 = .ok (.aload_n 0, 1) := by decide +kernel
theorem dX3_mix_28 : decode cX3_mix 28 = .ok (.getfield 19, 3) := by decide +kernel
theorem dX3_mix_31 : decode cX3_mix 31 = .ok (.iload_n 3, 1) := by decide +kernel
theorem dX3_mix_32 : decode cX3_mix 32 = .ok (.invokestatic 42, 3) := by decide +kernel
theorem dX3_mix_35 : decode cX3_mix 35 = .ok (.i2l, 1) := by decide +kernel
theorem dX3_mix_36 : decode cX3_mix 36 = .ok (.ladd, 1) := by decide +kernel
theorem dX3_mix_37 : decode cX3_mix 37 = .ok (.lstore_n 1, 1) := by decide +kernel
theorem dX3_mix_38 : decode cX3_mix 38 = .ok (.iinc 3 1, 3) := by decide +kernel
theorem dX3_mix_41 : decode cX3_mix 41 = .ok (.goto (-27), 3) := by decide +kernel
theorem dX3_mix_44 : decode cX3_mix 44 = .ok (.lload_n 1, 1) := by decide +kernel
theorem dX3_mix_45 : decode cX3_mix 45 = .ok (.lreturn, 1) := by decide +kernel
theorem dX4_init_0 : decode cX4_init 0 = .ok (.aload_n 0, 1) := by decide +kernel
theorem dX4_init_1 : decode cX4_init 1 = .ok (.invokespecial 3, 3) := by decide +kernel
theorem dX4_init_4 : decode cX4_init 4 = .ok (.aload_n 0, 1) := by decide +kernel
theorem dX4_init_5 : decode cX4_init 5 = .ok (.sipush 11008, 3) := by decide +kernel
theorem dX4_init_8 : decode cX4_init 8 = .ok (.newarray .int, 2) := by decide +kernel
theorem dX4_init_10 : decode cX4_init 10 = .ok (.putfield 9, 3) := by decide +kernel
theorem dX4_init_13 : decode cX4_init 13 = .ok (.aload_n 0, 1) := by decide +kernel
theorem dX4_init_14 : decode cX4_init 14 = .ok (.sipush 11008, 3) := by decide +kernel
theorem dX4_init_17 : decode cX4_init 17 = .ok (.newarray .int, 2) := by decide +kernel
theorem dX4_init_19 : decode cX4_init 19 = .ok (.putfield 15, 3) := by decide +kernel
theorem dX4_init_22 : decode cX4_init 22 = .ok (.aload_n 0, 1) := by decide +kernel
theorem dX4_init_23 : decode cX4_init 23 = .ok (.sipush 11008, 3) := by decide +kernel
theorem dX4_init_26 : decode cX4_init 26 = .ok (.newarray .int, 2) := by decide +kernel
theorem dX4_init_28 : decode cX4_init 28 = .ok (.putfield 18, 3) := by decide +kernel
theorem dX4_init_31 : decode cX4_init 31 = .ok (.aload_n 0, 1) := by decide +kernel
theorem dX4_init_32 : decode cX4_init 32 = .ok (.sipush 2048, 3) := by decide +kernel
theorem dX4_init_35 : decode cX4_init 35 = .ok (.newarray .int, 2) := by decide +kernel
theorem dX4_init_37 : decode cX4_init 37 = .ok (.putfield 21, 3) := by decide +kernel
theorem dX4_init_40 : decode cX4_init 40 = .ok (.aload_n 0, 1) := by decide +kernel
theorem dX4_init_41 : decode cX4_init 41 = .ok (.iconst 4, 1) := by decide +kernel
theorem dX4_init_42 : decode cX4_init 42 = .ok (.newarray .int, 2) := by decide +kernel
theorem dX4_init_44 : decode cX4_init 44 = .ok (.putfield 24, 3) := by decide +kernel
theorem dX4_init_47 : decode cX4_init 47 = .ok (.aload_n 0, 1) := by decide +kernel
theorem dX4_init_48 : decode cX4_init 48 = .ok (.iconst (-1), 1) := by decide +kernel
theorem dX4_init_49 : decode cX4_init 49 = .ok (.putfield 27, 3) := by decide +kernel
theorem dX4_init_52 : decode cX4_init 52 = .ok (.aload_n 0, 1) := by decide +kernel
theorem dX4_init_53 : decode cX4_init 53 = .ok (.aload_n 1, 1) := by decide +kernel
theorem dX4_init_54 : decode cX4_init 54 = .ok (.putfield 31, 3) := by decide +kernel
theorem dX4_init_57 : decode cX4_init 57 = .ok (.aload_n 0, 1) := by decide +kernel
theorem dX4_init_58 : decode cX4_init 58 = .ok (.aload_n 2, 1) := by decide +kernel
theorem dX4_init_59 : decode cX4_init 59 = .ok (.putfield 35, 3) := by decide +kernel
theorem dX4_init_62 : decode cX4_init 62 = .ok (.aload_n 0, 1) := by decide +kernel
theorem dX4_init_63 : decode cX4_init 63 = .ok (.aload_n 3, 1) := by decide +kernel
theorem dX4_init_64 : decode cX4_init 64 = .ok (.putfield 39, 3) := by decide +kernel
theorem dX4_init_67 : decode cX4_init 67 = .ok (.aload_n 0, 1) := by decide +kernel
theorem dX4_init_68 : decode cX4_init 68 = .ok (.aload 4, 2) := by decide +kernel
theorem dX4_init_70 : decode cX4_init 70 = .ok (.putfield 43, 3) := by decide +kernel
theorem dX4_init_73 : decode cX4_init 73 = .ok (.return_, 1) := by decide +kernel
theorem dX4_begin_0 : decode cX4_begin 0 = .ok (.aload_n 0, 1) := by decide +kernel
theorem dX4_begin_1 : decode cX4_begin 1 = .ok (.iconst 0, 1) := by decide +kernel
theorem dX4_begin_2 : decode cX4_begin 2 = .ok (.putfield 47, 3) := by decide +kernel
theorem dX4_begin_5 : decode cX4_begin 5 = .ok (.aload_n 0, 1) := by decide +kernel
theorem dX4_begin_6 : decode cX4_begin 6 = .ok (.iconst (-1), 1) := by decide +kernel
theorem dX4_begin_7 : decode cX4_begin 7 = .ok (.putfield 27, 3) := by decide +kernel
theorem dX4_begin_10 : decode cX4_begin 10 = .ok (.aload_n 0, 1) := by decide +kernel
theorem dX4_begin_11 : decode cX4_begin 11 = .ok (.iconst 0, 1) := by decide +kernel
theorem dX4_begin_12 : decode cX4_begin 12 = .ok (.putfield 50, 3) := by decide +kernel
theorem dX4_begin_15 : decode cX4_begin 15 = .ok (.aload_n 0, 1) := by decide +kernel
theorem dX4_begin_16 : decode cX4_begin 16 = .ok (.sipush 3072, 3) := by decide +kernel
theorem dX4_begin_19 : decode cX4_begin 19 = .ok (.putfield 53, 3) := by decide +kernel
theorem dX4_begin_22 : decode cX4_begin 22 = .ok (.aload_n 0, 1) := by decide +kernel
theorem dX4_begin_23 : decode cX4_begin 23 = .ok (.iconst 0, 1) := by decide +kernel
theorem dX4_begin_24 : decode cX4_begin 24 = .ok (.putfield 56, 3) := by decide +kernel
theorem dX4_begin_27 : decode cX4_begin 27 = .ok (.return_, 1) := by decide +kernel
theorem dX4_keepLines_0 : decode cX4_keepLines 0 = .ok (.aload_n 0, 1) := by decide +kernel
theorem dX4_keepLines_1 : decode cX4_keepLines 1 = .ok (.getfield 15, 3) := by decide +kernel
