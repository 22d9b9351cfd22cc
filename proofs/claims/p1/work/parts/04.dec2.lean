theorem dX4_keepLines_4 : decode cX4_keepLines 4 = .ok (.iconst 0, 1) := by decide +kernel
theorem dX4_keepLines_5 : decode cX4_keepLines 5 = .ok (.aload_n 0, 1) := by decide +kernel
theorem dX4_keepLines_6 : decode cX4_keepLines 6 = .ok (.getfield 18, 3) := by decide +kernel
theorem dX4_keepLines_9 : decode cX4_keepLines 9 = .ok (.iconst 0, 1) := by decide +kernel
theorem dX4_keepLines_10 : decode cX4_keepLines 10 = .ok (.sipush 11008, 3) := by decide +kernel
theorem dX4_keepLines_13 : decode cX4_keepLines 13 = .ok (.invokestatic 59, 3) := by decide +kernel
theorem dX4_keepLines_16 : decode cX4_keepLines 16 = .ok (.return_, 1) := by decide +kernel
theorem dX4_firstTime_0 : decode cX4_firstTime 0 = .ok (.iconst 0, 1) := by decide +kernel
theorem dX4_firstTime_1 : decode cX4_firstTime 1 = .ok (.istore_n 1, 1) := by decide +kernel
theorem dX4_firstTime_2 : decode cX4_firstTime 2 = .ok (.iload_n 1, 1) := by decide +kernel
theorem dX4_firstTime_3 : decode cX4_firstTime 3 = .ok (.aload_n 0, 1) := by decide +kernel
theorem dX4_firstTime_4 : decode cX4_firstTime 4 = .ok (.getfield 43, 3) := by decide +kernel
theorem dX4_firstTime_7 : decode cX4_firstTime 7 = .ok (.getfield 74, 3) := by decide +kernel
theorem dX4_firstTime_10 : decode cX4_firstTime 10 = .ok (.if_icmp .ge 130, 3) := by decide +kernel
theorem dX4_firstTime_13 : decode cX4_firstTime 13 = .ok (.aload_n 0, 1) := by decide +kernel
theorem dX4_firstTime_14 : decode cX4_firstTime 14 = .ok (.getfield 47, 3) := by decide +kernel
theorem dX4_firstTime_17 : decode cX4_firstTime 17 = .ok (.ifCond .ne 123, 3) := by decide +kernel
theorem dX4_firstTime_20 : decode cX4_firstTime 20 = .ok (.aload_n 0, 1) := by decide +kernel
theorem dX4_firstTime_21 : decode cX4_firstTime 21 = .ok (.getfield 43, 3) := by decide +kernel
theorem dX4_firstTime_24 : decode cX4_firstTime 24 = .ok (.iload_n 1, 1) := by decide +kernel
theorem dX4_firstTime_25 : decode cX4_firstTime 25 = .ok (.invokevirtual 79, 3) := by decide +kernel
theorem dX4_firstTime_28 : decode cX4_firstTime 28 = .ok (.astore_n 2, 1) := by decide +kernel
theorem dX4_firstTime_29 : decode cX4_firstTime 29 = .ok (.aload_n 0, 1) := by decide +kernel
theorem dX4_firstTime_30 : decode cX4_firstTime 30 = .ok (.getfield 31, 3) := by decide +kernel
theorem dX4_firstTime_33 : decode cX4_firstTime 33 = .ok (.aload_n 2, 1) := by decide +kernel
theorem dX4_firstTime_34 : decode cX4_firstTime 34 = .ok (.getfield 83, 3) := by decide +kernel
theorem dX4_firstTime_37 : decode cX4_firstTime 37 = .ok (.invokevirtual 88, 3) := by decide +kernel
theorem dX4_firstTime_40 : decode cX4_firstTime 40 = .ok (.istore_n 3, 1) := by decide +kernel
theorem dX4_firstTime_41 : decode cX4_firstTime 41 = .ok (.aload_n 2, 1) := by decide +kernel
theorem dX4_firstTime_42 : decode cX4_firstTime 42 = .ok (.aload_n 0, 1) := by decide +kernel
theorem dX4_firstTime_43 : decode cX4_firstTime 43 = .ok (.iload_n 3, 1) := by decide +kernel
theorem dX4_firstTime_44 : decode cX4_firstTime 44 = .ok (.invokevirtual 92, 3) := by decide +kernel
theorem dX4_firstTime_47 : decode cX4_firstTime 47 = .ok (.putfield 96, 3) := by decide +kernel
theorem dX4_firstTime_50 : decode cX4_firstTime 50 = .ok (.aload_n 2, 1) := by decide +kernel
theorem dX4_firstTime_51 : decode cX4_firstTime 51 = .ok (.aload_n 0, 1) := by decide +kernel
theorem dX4_firstTime_52 : decode cX4_firstTime 52 = .ok (.getfield 53, 3) := by decide +kernel
theorem dX4_firstTime_55 : decode cX4_firstTime 55 = .ok (.putfield 100, 3) := by decide +kernel
theorem dX4_firstTime_58 : decode cX4_firstTime 58 = .ok (.aload_n 2, 1) := by decide +kernel
theorem dX4_firstTime_59 : decode cX4_firstTime 59 = .ok (.aload_n 0, 1) := by decide +kernel
theorem dX4_firstTime_60 : decode cX4_firstTime 60 = .ok (.getfield 56, 3) := by decide +kernel
theorem dX4_firstTime_63 : decode cX4_firstTime 63 = .ok (.putfield 101, 3) := by decide +kernel
theorem dX4_firstTime_66 : decode cX4_firstTime 66 = .ok (.aload_n 2, 1) := by decide +kernel
theorem dX4_firstTime_67 : decode cX4_firstTime 67 = .ok (.getfield 96, 3) := by decide +kernel
theorem dX4_firstTime_70 : decode cX4_firstTime 70 = .ok (.ifCond .ne 15, 3) := by decide +kernel
theorem dX4_firstTime_73 : decode cX4_firstTime 73 = .ok (.aload_n 2, 1) := by decide +kernel
theorem dX4_firstTime_74 : decode cX4_firstTime 74 = .ok (.getfield 102, 3) := by decide +kernel
theorem dX4_firstTime_77 : decode cX4_firstTime 77 = .ok (.ifCond .lt 8, 3) := by decide +kernel
theorem dX4_firstTime_80 : decode cX4_firstTime 80 = .ok (.aload_n 0, 1) := by decide +kernel
theorem dX4_firstTime_81 : decode cX4_firstTime 81 = .ok (.aload_n 2, 1) := by decide +kernel
theorem dX4_firstTime_82 : decode cX4_firstTime 82 = .ok (.invokevirtual 105, 3) := by decide +kernel
theorem dX4_firstTime_85 : decode cX4_firstTime 85 = .ok (.aload_n 0, 1) := by decide +kernel
theorem dX4_firstTime_86 : decode cX4_firstTime 86 = .ok (.getfield 47, 3) := by decide +kernel
theorem dX4_firstTime_89 : decode cX4_firstTime 89 = .ok (.ifCond .ne 18, 3) := by decide +kernel
theorem dX4_firstTime_92 : decode cX4_firstTime 92 = .ok (.iload_n 3, 1) := by decide +kernel
theorem dX4_firstTime_93 : decode cX4_firstTime 93 = .ok (.bipush 6, 2) := by decide +kernel
theorem dX4_firstTime_95 : decode cX4_firstTime 95 = .ok (.if_icmp .lt 12, 3) := by decide +kernel
theorem dX4_firstTime_98 : decode cX4_firstTime 98 = .ok (.aload_n 0, 1) := by decide +kernel
theorem dX4_firstTime_99 : decode cX4_firstTime 99 = .ok (.aload_n 2, 1) := by decide +kernel
theorem dX4_firstTime_100 : decode cX4_firstTime 100 = .ok (.iload_n 3, 1) := by decide +kernel
theorem dX4_firstTime_101 : decode cX4_firstTime 101 = .ok (.invokevirtual 109, 3) := by decide +kernel
theorem dX4_firstTime_104 : decode cX4_firstTime 104 = .ok (.goto 30, 3) := by decide +kernel
theorem dX4_firstTime_107 : decode cX4_firstTime 107 = .ok (.aload_n 0, 1) := by decide +kernel
theorem dX4_firstTime_108 : decode cX4_firstTime 108 = .ok (.getfield 47, 3) := by decide +kernel
theorem dX4_firstTime_111 : decode cX4_firstTime 111 = .ok (.ifCond .ne 23, 3) := by decide +kernel
theorem dX4_firstTime_114 : decode cX4_firstTime 114 = .ok (.aload_n 2, 1) := by decide +kernel
theorem dX4_firstTime_115 : decode cX4_firstTime 115 = .ok (.getfield 96, 3) := by decide +kernel
theorem dX4_firstTime_118 : decode cX4_firstTime 118 = .ok (.ifCond .ne 16, 3) := by decide +kernel
theorem dX4_firstTime_121 : decode cX4_firstTime 121 = .ok (.aload_n 2, 1) := by decide +kernel
theorem dX4_firstTime_122 : decode cX4_firstTime 122 = .ok (.getfield 83, 3) := by decide +kernel
theorem dX4_firstTime_125 : decode cX4_firstTime 125 = .ok (.ifCond .lt 9, 3) := by decide +kernel
theorem dX4_firstTime_128 : decode cX4_firstTime 128 = .ok (.aload_n 0, 1) := by decide +kernel
theorem dX4_firstTime_129 : decode cX4_firstTime 129 = .ok (.aload_n 2, 1) := by decide +kernel
theorem dX4_firstTime_130 : decode cX4_firstTime 130 = .ok (.iload_n 3, 1) := by decide +kernel
theorem dX4_firstTime_131 : decode cX4_firstTime 131 = .ok (.invokevirtual 113, 3) := by decide +kernel
theorem dX4_firstTime_134 : decode cX4_firstTime 134 = .ok (.iinc 1 1, 3) := by decide +kernel
theorem dX4_firstTime_137 : decode cX4_firstTime 137 = .ok (.goto (-135), 3) := by decide +kernel
theorem dX4_firstTime_140 : decode cX4_firstTime 140 = .ok (.aload_n 0, 1) := by decide +kernel
theorem dX4_firstTime_141 : decode cX4_firstTime 141 = .ok (.getfield 47, 3) := by decide +kernel
theorem dX4_firstTime_144 : decode cX4_firstTime 144 = .ok (.ifCond .ne 22, 3) := by decide +kernel
theorem dX4_firstTime_147 : decode cX4_firstTime 147 = .ok (.aload_n 0, 1) := by decide +kernel
theorem dX4_firstTime_148 : decode cX4_firstTime 148 = .ok (.getfield 50, 3) := by decide +kernel
theorem dX4_firstTime_151 : decode cX4_firstTime 151 = .ok (.ifCond .le 15, 3) := by decide +kernel
theorem dX4_firstTime_154 : decode cX4_firstTime 154 = .ok (.aload_n 0, 1) := by decide +kernel
theorem dX4_firstTime_155 : decode cX4_firstTime 155 = .ok (.iconst 3, 1) := by decide +kernel
theorem dX4_firstTime_156 : decode cX4_firstTime 156 = .ok (.aload_n 0, 1) := by decide +kernel
theorem dX4_firstTime_157 : decode cX4_firstTime 157 = .ok (.getfield 31, 3) := by decide +kernel
theorem dX4_firstTime_160 : decode cX4_firstTime 160 = .ok (.getfield 116, 3) := by decide +kernel
theorem dX4_firstTime_163 : decode cX4_firstTime 163 = .ok (.invokevirtual 119, 3) := by decide +kernel
theorem dX4_firstTime_166 : decode cX4_firstTime 166 = .ok (.return_, 1) := by decide +kernel
theorem dX4_leavesOut_0 : decode cX4_leavesOut 0 = .ok (.aload_n 0, 1) := by decide +kernel
theorem dX4_leavesOut_1 : decode cX4_leavesOut 1 = .ok (.getfield 50, 3) := by decide +kernel
theorem dX4_leavesOut_4 : decode cX4_leavesOut 4 = .ok (.ifCond .le 22, 3) := by decide +kernel
theorem dX4_leavesOut_7 : decode cX4_leavesOut 7 = .ok (.aload_n 0, 1) := by decide +kernel
theorem dX4_leavesOut_8 : decode cX4_leavesOut 8 = .ok (.getfield 24, 3) := by decide +kernel
theorem dX4_leavesOut_11 : decode cX4_leavesOut 11 = .ok (.aload_n 0, 1) := by decide +kernel
theorem dX4_leavesOut_12 : decode cX4_leavesOut 12 = .ok (.getfield 50, 3) := by decide +kernel
theorem dX4_leavesOut_15 : decode cX4_leavesOut 15 = .ok (.iconst 1, 1) := by decide +kernel
theorem dX4_leavesOut_16 : decode cX4_leavesOut 16 = .ok (.isub, 1) := by decide +kernel
theorem dX4_leavesOut_17 : decode cX4_leavesOut 17 = .ok (.invokestatic 70, 3) := by decide +kernel
theorem dX4_leavesOut_20 : decode cX4_leavesOut 20 = .ok (.bipush (-5), 2) := by decide +kernel
theorem dX4_leavesOut_22 : decode cX4_leavesOut 22 = .ok (.iand, 1) := by decide +kernel
theorem dX4_leavesOut_23 : decode cX4_leavesOut 23 = .ok (.goto 4, 3) := by decide +kernel
theorem dX4_leavesOut_26 : decode cX4_leavesOut 26 = .ok (.iconst 0, 1) := by decide +kernel
theorem dX4_leavesOut_27 : decode cX4_leavesOut 27 = .ok (.istore_n 2, 1) := by decide +kernel
theorem dX4_leavesOut_28 : decode cX4_leavesOut 28 = .ok (.iload_n 2, 1) := by decide +kernel
theorem dX4_leavesOut_29 : decode cX4_leavesOut 29 = .ok (.iconst 2, 1) := by decide +kernel
theorem dX4_leavesOut_30 : decode cX4_leavesOut 30 = .ok (.if_icmp .eq 20, 3) := by decide +kernel
theorem dX4_leavesOut_33 : decode cX4_leavesOut 33 = .ok (.iload_n 2, 1) := by decide +kernel
theorem dX4_leavesOut_34 : decode cX4_leavesOut 34 = .ok (.iconst 1, 1) := by decide +kernel
theorem dX4_leavesOut_35 : decode cX4_leavesOut 35 = .ok (.if_icmp .ne 19, 3) := by decide +kernel
theorem dX4_leavesOut_38 : decode cX4_leavesOut 38 = .ok (.iload_n 1, 1) := by decide +kernel
theorem dX4_leavesOut_39 : decode cX4_leavesOut 39 = .ok (.bipush 7, 2) := by decide +kernel
theorem dX4_leavesOut_41 : decode cX4_leavesOut 41 = .ok (.if_icmp .eq 13, 3) := by decide +kernel
theorem dX4_leavesOut_44 : decode cX4_leavesOut 44 = .ok (.iload_n 1, 1) := by decide +kernel
theorem dX4_leavesOut_45 : decode cX4_leavesOut 45 = .ok (.bipush 8, 2) := by decide +kernel
theorem dX4_leavesOut_47 : decode cX4_leavesOut 47 = .ok (.if_icmp .eq 7, 3) := by decide +kernel
theorem dX4_leavesOut_50 : decode cX4_leavesOut 50 = .ok (.iconst 1, 1) := by decide +kernel
theorem dX4_leavesOut_51 : decode cX4_leavesOut 51 = .ok (.goto 4, 3) := by decide +kernel
theorem dX4_leavesOut_54 : decode cX4_leavesOut 54 = .ok (.iconst 0, 1) := by decide +kernel
theorem dX4_leavesOut_55 : decode cX4_leavesOut 55 = .ok (.ireturn, 1) := by decide +kernel
theorem dX4_secondTime_0 : decode cX4_secondTime 0 = .ok (.aload_n 0, 1) := by decide +kernel
theorem dX4_secondTime_1 : decode cX4_secondTime 1 = .ok (.getfield 9, 3) := by decide +kernel
theorem dX4_secondTime_4 : decode cX4_secondTime 4 = .ok (.iconst 0, 1) := by decide +kernel
theorem dX4_secondTime_5 : decode cX4_secondTime 5 = .ok (.invokestatic 221, 3) := by decide +kernel
theorem dX4_secondTime_8 : decode cX4_secondTime 8 = .ok (.aload_n 0, 1) := by decide +kernel
theorem dX4_secondTime_9 : decode cX4_secondTime 9 = .ok (.getfield 15, 3) := by decide +kernel
theorem dX4_secondTime_12 : decode cX4_secondTime 12 = .ok (.iconst 0, 1) := by decide +kernel
theorem dX4_secondTime_13 : decode cX4_secondTime 13 = .ok (.invokestatic 221, 3) := by decide +kernel
theorem dX4_secondTime_16 : decode cX4_secondTime 16 = .ok (.iconst 0, 1) := by decide +kernel
theorem dX4_secondTime_17 : decode cX4_secondTime 17 = .ok (.istore_n 1, 1) := by decide +kernel
theorem dX4_secondTime_18 : decode cX4_secondTime 18 = .ok (.iload_n 1, 1) := by decide +kernel
theorem dX4_secondTime_19 : decode cX4_secondTime 19 = .ok (.aload_n 0, 1) := by decide +kernel
theorem dX4_secondTime_20 : decode cX4_secondTime 20 = .ok (.getfield 43, 3) := by decide +kernel
theorem dX4_secondTime_23 : decode cX4_secondTime 23 = .ok (.getfield 74, 3) := by decide +kernel
theorem dX4_secondTime_26 : decode cX4_secondTime 26 = .ok (.if_icmp .ge 65, 3) := by decide +kernel
theorem dX4_secondTime_29 : decode cX4_secondTime 29 = .ok (.aload_n 0, 1) := by decide +kernel
theorem dX4_secondTime_30 : decode cX4_secondTime 30 = .ok (.getfield 47, 3) := by decide +kernel
theorem dX4_secondTime_33 : decode cX4_secondTime 33 = .ok (.ifCond .ne 58, 3) := by decide +kernel
theorem dX4_secondTime_36 : decode cX4_secondTime 36 = .ok (.aload_n 0, 1) := by decide +kernel
theorem dX4_secondTime_37 : decode cX4_secondTime 37 = .ok (.getfield 43, 3) := by decide +kernel
theorem dX4_secondTime_40 : decode cX4_secondTime 40 = .ok (.iload_n 1, 1) := by decide +kernel
theorem dX4_secondTime_41 : decode cX4_secondTime 41 = .ok (.invokevirtual 79, 3) := by decide +kernel
theorem dX4_secondTime_44 : decode cX4_secondTime 44 = .ok (.astore_n 2, 1) := by decide +kernel
theorem dX4_secondTime_45 : decode cX4_secondTime 45 = .ok (.aload_n 2, 1) := by decide +kernel
theorem dX4_secondTime_46 : decode cX4_secondTime 46 = .ok (.getfield 96, 3) := by decide +kernel
theorem dX4_secondTime_49 : decode cX4_secondTime 49 = .ok (.ifCond .ne 14, 3) := by decide +kernel
theorem dX4_secondTime_52 : decode cX4_secondTime 52 = .ok (.aload_n 2, 1) := by decide +kernel
theorem dX4_secondTime_53 : decode cX4_secondTime 53 = .ok (.getfield 83, 3) := by decide +kernel
theorem dX4_secondTime_56 : decode cX4_secondTime 56 = .ok (.ifCond .lt 7, 3) := by decide +kernel
theorem dX4_secondTime_59 : decode cX4_secondTime 59 = .ok (.iconst 1, 1) := by decide +kernel
theorem dX4_secondTime_60 : decode cX4_secondTime 60 = .ok (.goto 4, 3) := by decide +kernel
theorem dX4_secondTime_63 : decode cX4_secondTime 63 = .ok (.iconst 0, 1) := by decide +kernel
theorem dX4_secondTime_64 : decode cX4_secondTime 64 = .ok (.istore_n 3, 1) := by decide +kernel
theorem dX4_secondTime_65 : decode cX4_secondTime 65 = .ok (.iload_n 3, 1) := by decide +kernel
theorem dX4_secondTime_66 : decode cX4_secondTime 66 = .ok (.ifCond .eq 19, 3) := by decide +kernel
theorem dX4_secondTime_69 : decode cX4_secondTime 69 = .ok (.aload_n 0, 1) := by decide +kernel
theorem dX4_secondTime_70 : decode cX4_secondTime 70 = .ok (.aload_n 2, 1) := by decide +kernel
theorem dX4_secondTime_71 : decode cX4_secondTime 71 = .ok (.invokevirtual 227, 3) := by decide +kernel
theorem dX4_secondTime_74 : decode cX4_secondTime 74 = .ok (.ifCond .eq 11, 3) := by decide +kernel
theorem dX4_secondTime_77 : decode cX4_secondTime 77 = .ok (.aload_n 0, 1) := by decide +kernel
theorem dX4_secondTime_78 : decode cX4_secondTime 78 = .ok (.aload_n 2, 1) := by decide +kernel
theorem dX4_secondTime_79 : decode cX4_secondTime 79 = .ok (.iload_n 1, 1) := by decide +kernel
theorem dX4_secondTime_80 : decode cX4_secondTime 80 = .ok (.iconst 1, 1) := by decide +kernel
theorem dX4_secondTime_81 : decode cX4_secondTime 81 = .ok (.iadd, 1) := by decide +kernel
theorem dX4_secondTime_82 : decode cX4_secondTime 82 = .ok (.invokevirtual 230, 3) := by decide +kernel
theorem dX4_secondTime_85 : decode cX4_secondTime 85 = .ok (.iinc 1 1, 3) := by decide +kernel
theorem dX4_secondTime_88 : decode cX4_secondTime 88 = .ok (.goto (-70), 3) := by decide +kernel
theorem dX4_secondTime_91 : decode cX4_secondTime 91 = .ok (.return_, 1) := by decide +kernel
theorem dX5_init_0 : decode cX5_init 0 = .ok (.aload_n 0, 1) := by decide +kernel
theorem dX5_init_1 : decode cX5_init 1 = .ok (.invokespecial 3, 3) := by decide +kernel
theorem dX5_init_4 : decode cX5_init 4 = .ok (.aload_n 0, 1) := by decide +kernel
theorem dX5_init_5 : decode cX5_init 5 = .ok (.bipush 16, 2) := by decide +kernel
theorem dX5_init_7 : decode cX5_init 7 = .ok (.newarray .int, 2) := by decide +kernel
theorem dX5_init_9 : decode cX5_init 9 = .ok (.putfield 9, 3) := by decide +kernel
theorem dX5_init_12 : decode cX5_init 12 = .ok (.aload_n 0, 1) := by decide +kernel
theorem dX5_init_13 : decode cX5_init 13 = .ok (.bipush 40, 2) := by decide +kernel
theorem dX5_init_15 : decode cX5_init 15 = .ok (.newarray .int, 2) := by decide +kernel
theorem dX5_init_17 : decode cX5_init 17 = .ok (.putfield 15, 3) := by decide +kernel
theorem dX5_init_20 : decode cX5_init 20 = .ok (.return_, 1) := by decide +kernel
theorem dX5_clear_0 : decode cX5_clear 0 = .ok (.aload_n 0, 1) := by decide +kernel
theorem dX5_clear_1 : decode cX5_clear 1 = .ok (.iconst 0, 1) := by decide +kernel
theorem dX5_clear_2 : decode cX5_clear 2 = .ok (.putfield 18, 3) := by decide +kernel
theorem dX5_clear_5 : decode cX5_clear 5 = .ok (.aload_n 0, 1) := by decide +kernel
theorem dX5_clear_6 : decode cX5_clear 6 = .ok (.iconst 0, 1) := by decide +kernel
theorem dX5_clear_7 : decode cX5_clear 7 = .ok (.putfield 22, 3) := by decide +kernel
theorem dX5_clear_10 : decode cX5_clear 10 = .ok (.aload_n 0, 1) := by decide +kernel
theorem dX5_clear_11 : decode cX5_clear 11 = .ok (.iconst 0, 1) := by decide +kernel
theorem dX5_clear_12 : decode cX5_clear 12 = .ok (.putfield 25, 3) := by decide +kernel
theorem dX5_clear_15 : decode cX5_clear 15 = .ok (.aload_n 0, 1) := by decide +kernel
theorem dX5_clear_16 : decode cX5_clear 16 = .ok (.iconst 0, 1) := by decide +kernel
theorem dX5_clear_17 : decode cX5_clear 17 = .ok (.putfield 28, 3) := by decide +kernel
theorem dX5_clear_20 : decode cX5_clear 20 = .ok (.aload_n 0, 1) := by decide +kernel
theorem dX5_clear_21 : decode cX5_clear 21 = .ok (.iconst 0, 1) := by decide +kernel
theorem dX5_clear_22 : decode cX5_clear 22 = .ok (.putfield 31, 3) := by decide +kernel
theorem dX5_clear_25 : decode cX5_clear 25 = .ok (.aload_n 0, 1) := by decide +kernel
theorem dX5_clear_26 : decode cX5_clear 26 = .ok (.iconst 0, 1) := by decide +kernel
theorem dX5_clear_27 : decode cX5_clear 27 = .ok (.putfield 34, 3) := by decide +kernel
theorem dX5_clear_30 : decode cX5_clear 30 = .ok (.aload_n 0, 1) := by decide +kernel
theorem dX5_clear_31 : decode cX5_clear 31 = .ok (.iconst 0, 1) := by decide +kernel
theorem dX5_clear_32 : decode cX5_clear 32 = .ok (.putfield 37, 3) := by decide +kernel
theorem dX5_clear_35 : decode cX5_clear 35 = .ok (.aload_n 0, 1) := by decide +kernel
theorem dX5_clear_36 : decode cX5_clear 36 = .ok (.iconst 0, 1) := by decide +kernel
theorem dX5_clear_37 : decode cX5_clear 37 = .ok (.putfield 40, 3) := by decide +kernel
theorem dX5_clear_40 : decode cX5_clear 40 = .ok (.aload_n 0, 1) := by decide +kernel
theorem dX5_clear_41 : decode cX5_clear 41 = .ok (.iconst 1, 1) := by decide +kernel
theorem dX5_clear_42 : decode cX5_clear 42 = .ok (.putfield 43, 3) := by decide +kernel
theorem dX5_clear_45 : decode cX5_clear 45 = .ok (.aload_n 0, 1) := by decide +kernel
theorem dX5_clear_46 : decode cX5_clear 46 = .ok (.iconst 0, 1) := by decide +kernel
theorem dX5_clear_47 : decode cX5_clear 47 = .ok (.putfield 46, 3) := by decide +kernel
theorem dX5_clear_50 : decode cX5_clear 50 = .ok (.aload_n 0, 1) := by decide +kernel
theorem dX5_clear_51 : decode cX5_clear 51 = .ok (.iconst 0, 1) := by decide +kernel
theorem dX5_clear_52 : decode cX5_clear 52 = .ok (.putfield 49, 3) := by decide +kernel
theorem dX5_clear_55 : decode cX5_clear 55 = .ok (.aload_n 0, 1) := by decide +kernel
theorem dX5_clear_56 : decode cX5_clear 56 = .ok (.iconst 0, 1) := by decide +kernel
theorem dX5_clear_57 : decode cX5_clear 57 = .ok (.putfield 52, 3) := by decide +kernel
theorem dX5_clear_60 : decode cX5_clear 60 = .ok (.return_, 1) := by decide +kernel
theorem dX5_copyFrom_0 : decode cX5_copyFrom 0 = .ok (.aload_n 1, 1) := by decide +kernel
theorem dX5_copyFrom_1 : decode cX5_copyFrom 1 = .ok (.getfield 9, 3) := by decide +kernel
theorem dX5_copyFrom_4 : decode cX5_copyFrom 4 = .ok (.iconst 0, 1) := by decide +kernel
theorem dX5_copyFrom_5 : decode cX5_copyFrom 5 = .ok (.aload_n 0, 1) := by decide +kernel
theorem dX5_copyFrom_6 : decode cX5_copyFrom 6 = .ok (.getfield 9, 3) := by decide +kernel
theorem dX5_copyFrom_9 : decode cX5_copyFrom 9 = .ok (.iconst 0, 1) := by decide +kernel
theorem dX5_copyFrom_10 : decode cX5_copyFrom 10 = .ok (.bipush 16, 2) := by decide +kernel
theorem dX5_copyFrom_12 : decode cX5_copyFrom 12 = .ok (.invokestatic 55, 3) := by decide +kernel
theorem dX5_copyFrom_15 : decode cX5_copyFrom 15 = .ok (.aload_n 1, 1) := by decide +kernel
theorem dX5_copyFrom_16 : decode cX5_copyFrom 16 = .ok (.getfield 15, 3) := by decide +kernel
theorem dX5_copyFrom_19 : decode cX5_copyFrom 19 = .ok (.iconst 0, 1) := by decide +kernel
theorem dX5_copyFrom_20 : decode cX5_copyFrom 20 = .ok (.aload_n 0, 1) := by decide +kernel
theorem dX5_copyFrom_21 : decode cX5_copyFrom 21 = .ok (.getfield 15, 3) := by decide +kernel
theorem dX5_copyFrom_24 : decode cX5_copyFrom 24 = .ok (.iconst 0, 1) := by decide +kernel
theorem dX5_copyFrom_25 : decode cX5_copyFrom 25 = .ok (.bipush 40, 2) := by decide +kernel
theorem dX5_copyFrom_27 : decode cX5_copyFrom 27 = .ok (.invokestatic 55, 3) := by decide +kernel
theorem dX5_copyFrom_30 : decode cX5_copyFrom 30 = .ok (.aload_n 0, 1) := by decide +kernel
theorem dX5_copyFrom_31 : decode cX5_copyFrom 31 = .ok (.aload_n 1, 1) := by decide +kernel
theorem dX5_copyFrom_32 : decode cX5_copyFrom 32 = .ok (.getfield 18, 3) := by decide +kernel
theorem dX5_copyFrom_35 : decode cX5_copyFrom 35 = .ok (.putfield 18, 3) := by decide +kernel
theorem dX5_copyFrom_38 : decode cX5_copyFrom 38 = .ok (.aload_n 0, 1) := by decide +kernel
theorem dX5_copyFrom_39 : decode cX5_copyFrom 39 = .ok (.aload_n 1, 1) := by decide +kernel
theorem dX5_copyFrom_40 : decode cX5_copyFrom 40 = .ok (.getfield 22, 3) := by decide +kernel
theorem dX5_copyFrom_43 : decode cX5_copyFrom 43 = .ok (.putfield 22, 3) := by decide +kernel
theorem dX5_copyFrom_46 : decode cX5_copyFrom 46 = .ok (.aload_n 0, 1) := by decide +kernel
theorem dX5_copyFrom_47 : decode cX5_copyFrom 47 = .ok (.aload_n 1, 1) := by decide +kernel
theorem dX5_copyFrom_48 : decode cX5_copyFrom 48 = .ok (.getfield 25, 3) := by decide +kernel
theorem dX5_copyFrom_51 : decode cX5_copyFrom 51 = .ok (.putfield 25, 3) := by decide +kernel
theorem dX5_copyFrom_54 : decode cX5_copyFrom 54 = .ok (.aload_n 0, 1) := by decide +kernel
theorem dX5_copyFrom_55 : decode cX5_copyFrom 55 = .ok (.aload_n 1, 1) := by decide +kernel
theorem dX5_copyFrom_56 : decode cX5_copyFrom 56 = .ok (.getfield 28, 3) := by decide +kernel
theorem dX5_copyFrom_59 : decode cX5_copyFrom 59 = .ok (.putfield 28, 3) := by decide +kernel
theorem dX5_copyFrom_62 : decode cX5_copyFrom 62 = .ok (.aload_n 0, 1) := by decide +kernel
theorem dX5_copyFrom_63 : decode cX5_copyFrom 63 = .ok (.aload_n 1, 1) := by decide +kernel
theorem dX5_copyFrom_64 : decode cX5_copyFrom 64 = .ok (.getfield 31, 3) := by decide +kernel
theorem dX5_copyFrom_67 : decode cX5_copyFrom 67 = .ok (.putfield 31, 3) := by decide +kernel
theorem dX5_copyFrom_70 : decode cX5_copyFrom 70 = .ok (.aload_n 0, 1) := by decide +kernel
theorem dX5_copyFrom_71 : decode cX5_copyFrom 71 = .ok (.aload_n 1, 1) := by decide +kernel
theorem dX5_copyFrom_72 : decode cX5_copyFrom 72 = .ok (.getfield 34, 3) := by decide +kernel
theorem dX5_copyFrom_75 : decode cX5_copyFrom 75 = .ok (.putfield 34, 3) := by decide +kernel
theorem dX5_copyFrom_78 : decode cX5_copyFrom 78 = .ok (.aload_n 0, 1) := by decide +kernel
theorem dX5_copyFrom_79 : decode cX5_copyFrom 79 = .ok (.aload_n 1, 1) := by decide +kernel
theorem dX5_copyFrom_80 : decode cX5_copyFrom 80 = .ok (.getfield 37, 3) := by decide +kernel
theorem dX5_copyFrom_83 : decode cX5_copyFrom 83 = .ok (.putfield 37, 3) := by decide +kernel
theorem dX5_copyFrom_86 : decode cX5_copyFrom 86 = .ok (.aload_n 0, 1) := by decide +kernel
theorem dX5_copyFrom_87 : decode cX5_copyFrom 87 = .ok (.aload_n 1, 1) := by decide +kernel
theorem dX5_copyFrom_88 : decode cX5_copyFrom 88 = .ok (.getfield 40, 3) := by decide +kernel
theorem dX5_copyFrom_91 : decode cX5_copyFrom 91 = .ok (.putfield 40, 3) := by decide +kernel
theorem dX5_copyFrom_94 : decode cX5_copyFrom 94 = .ok (.aload_n 0, 1) := by decide +kernel
theorem dX5_copyFrom_95 : decode cX5_copyFrom 95 = .ok (.aload_n 1, 1) := by decide +kernel
theorem dX5_copyFrom_96 : decode cX5_copyFrom 96 = .ok (.getfield 43, 3) := by decide +kernel
theorem dX5_copyFrom_99 : decode cX5_copyFrom 99 = .ok (.putfield 43, 3) := by decide +kernel
theorem dX5_copyFrom_102 : decode cX5_copyFrom 102 = .ok (.aload_n 0, 1) := by decide +kernel
theorem dX5_copyFrom_103 : decode cX5_copyFrom 103 = .ok (.aload_n 1, 1) := by decide +kernel
theorem dX5_copyFrom_104 : decode cX5_copyFrom 104 = .ok (.getfield 46, 3) := by decide +kernel
theorem dX5_copyFrom_107 : decode cX5_copyFrom 107 = .ok (.putfield 46, 3) := by decide +kernel
theorem dX5_copyFrom_110 : decode cX5_copyFrom 110 = .ok (.aload_n 0, 1) := by decide +kernel
theorem dX5_copyFrom_111 : decode cX5_copyFrom 111 = .ok (.aload_n 1, 1) := by decide +kernel
theorem dX5_copyFrom_112 : decode cX5_copyFrom 112 = .ok (.getfield 49, 3) := by decide +kernel
theorem dX5_copyFrom_115 : decode cX5_copyFrom 115 = .ok (.putfield 49, 3) := by decide +kernel
theorem dX5_copyFrom_118 : decode cX5_copyFrom 118 = .ok (.aload_n 0, 1) := by decide +kernel
theorem dX5_copyFrom_119 : decode cX5_copyFrom 119 = .ok (.iconst 0, 1) := by decide +kernel
theorem dX5_copyFrom_120 : decode cX5_copyFrom 120 = .ok (.putfield 52, 3) := by decide +kernel
theorem dX5_copyFrom_123 : decode cX5_copyFrom 123 = .ok (.return_, 1) := by decide +kernel
theorem dX5_take_0 : decode cX5_take 0 = .ok (.aload_n 0, 1) := by decide +kernel
theorem dX5_take_1 : decode cX5_take 1 = .ok (.getfield 9, 3) := by decide +kernel
theorem dX5_take_4 : decode cX5_take 4 = .ok (.aload_n 0, 1) := by decide +kernel
theorem dX5_take_5 : decode cX5_take 5 = .ok (.getfield 28, 3) := by decide +kernel
theorem dX5_take_8 : decode cX5_take 8 = .ok (.iload_n 1, 1) := by decide +kernel
theorem dX5_take_9 : decode cX5_take 9 = .ok (.invokestatic 61, 3) := by decide +kernel
theorem dX5_take_12 : decode cX5_take 12 = .ok (.aload_n 0, 1) := by decide +kernel
theorem dX5_take_13 : decode cX5_take 13 = .ok (.dup, 1) := by decide +kernel
theorem dX5_take_14 : decode cX5_take 14 = .ok (.getfield 28, 3) := by decide +kernel
theorem dX5_take_17 : decode cX5_take 17 = .ok (.iconst 1, 1) := by decide +kernel
theorem dX5_take_18 : decode cX5_take 18 = .ok (.iadd, 1) := by decide +kernel
theorem dX5_take_19 : decode cX5_take 19 = .ok (.putfield 28, 3) := by decide +kernel
theorem dX5_take_22 : decode cX5_take 22 = .ok (.aload_n 0, 1) := by decide +kernel
theorem dX5_take_23 : decode cX5_take 23 = .ok (.dup, 1) := by decide +kernel
theorem dX5_take_24 : decode cX5_take 24 = .ok (.getfield 25, 3) := by decide +kernel
theorem dX5_take_27 : decode cX5_take 27 = .ok (.iconst 2, 1) := by decide +kernel
theorem dX5_take_28 : decode cX5_take 28 = .ok (.ior, 1) := by decide +kernel
theorem dX5_take_29 : decode cX5_take 29 = .ok (.putfield 25, 3) := by decide +kernel
theorem dX5_take_32 : decode cX5_take 32 = .ok (.return_, 1) := by decide +kernel
theorem dX5_wanting_0 : decode cX5_wanting 0 = .ok (.aload_n 0, 1) := by decide +kernel
theorem dX5_wanting_1 : decode cX5_wanting 1 = .ok (.getfield 25, 3) := by decide +kernel
theorem dX5_wanting_4 : decode cX5_wanting 4 = .ok (.aload_n 0, 1) := by decide +kernel
theorem dX5_wanting_5 : decode cX5_wanting 5 = .ok (.getfield 22, 3) := by decide +kernel
theorem dX5_wanting_8 : decode cX5_wanting 8 = .ok (.iand, 1) := by decide +kernel
theorem dX5_wanting_9 : decode cX5_wanting 9 = .ok (.ireturn, 1) := by decide +kernel
theorem dX5_firstWanting_0 : decode cX5_firstWanting 0 = .ok (.iconst 0, 1) := by decide +kernel
theorem dX5_firstWanting_1 : decode cX5_firstWanting 1 = .ok (.istore_n 1, 1) := by decide +kernel
theorem dX5_firstWanting_2 : decode cX5_firstWanting 2 = .ok (.iload_n 1, 1) := by decide +kernel
theorem dX5_firstWanting_3 : decode cX5_firstWanting 3 = .ok (.iconst 3, 1) := by decide +kernel
theorem dX5_firstWanting_4 : decode cX5_firstWanting 4 = .ok (.if_icmp .ge 20, 3) := by decide +kernel
theorem dX5_firstWanting_7 : decode cX5_firstWanting 7 = .ok (.aload_n 0, 1) := by decide +kernel
theorem dX5_firstWanting_8 : decode cX5_firstWanting 8 = .ok (.invokevirtual 65, 3) := by decide +kernel
theorem dX5_firstWanting_11 : decode cX5_firstWanting 11 = .ok (.iload_n 1, 1) := by decide +kernel
theorem dX5_firstWanting_12 : decode cX5_firstWanting 12 = .ok (.ishr, 1) := by decide +kernel
theorem dX5_firstWanting_13 : decode cX5_firstWanting 13 = .ok (.iconst 1, 1) := by decide +kernel
theorem dX5_firstWanting_14 : decode cX5_firstWanting 14 = .ok (.iand, 1) := by decide +kernel
theorem dX5_firstWanting_15 : decode cX5_firstWanting 15 = .ok (.ifCond .ne 9, 3) := by decide +kernel
theorem dX5_firstWanting_18 : decode cX5_firstWanting 18 = .ok (.iinc 1 1, 3) := by decide +kernel
theorem dX5_firstWanting_21 : decode cX5_firstWanting 21 = .ok (.goto (-19), 3) := by decide +kernel
theorem dX5_firstWanting_24 : decode cX5_firstWanting 24 = .ok (.iload_n 1, 1) := by decide +kernel
theorem dX5_firstWanting_25 : decode cX5_firstWanting 25 = .ok (.ireturn, 1) := by decide +kernel
theorem dX5_outputsKept_0 : decode cX5_outputsKept 0 = .ok (.aload_n 0, 1) := by decide +kernel
theorem dX5_outputsKept_1 : decode cX5_outputsKept 1 = .ok (.getfield 31, 3) := by decide +kernel
theorem dX5_outputsKept_4 : decode cX5_outputsKept 4 = .ok (.bipush 40, 2) := by decide +kernel
theorem dX5_outputsKept_6 : decode cX5_outputsKept 6 = .ok (.if_icmp .ge 10, 3) := by decide +kernel
theorem dX5_outputsKept_9 : decode cX5_outputsKept 9 = .ok (.aload_n 0, 1) := by decide +kernel
theorem dX5_outputsKept_10 : decode cX5_outputsKept 10 = .ok (.getfield 31, 3) := by decide +kernel
theorem dX5_outputsKept_13 : decode cX5_outputsKept 13 = .ok (.goto 5, 3) := by decide +kernel
theorem dX5_outputsKept_16 : decode cX5_outputsKept 16 = .ok (.bipush 40, 2) := by decide +kernel
theorem dX5_outputsKept_18 : decode cX5_outputsKept 18 = .ok (.ireturn, 1) := by decide +kernel
theorem dX5_latest_0 : decode cX5_latest 0 = .ok (.aload_n 0, 1) := by decide +kernel
theorem dX5_latest_1 : decode cX5_latest 1 = .ok (.getfield 15, 3) := by decide +kernel
theorem dX5_latest_4 : decode cX5_latest 4 = .ok (.aload_n 0, 1) := by decide +kernel
theorem dX5_latest_5 : decode cX5_latest 5 = .ok (.getfield 31, 3) := by decide +kernel
theorem dX5_latest_8 : decode cX5_latest 8 = .ok (.iconst 1, 1) := by decide +kernel
theorem dX5_latest_9 : decode cX5_latest 9 = .ok (.isub, 1) := by decide +kernel
theorem dX5_latest_10 : decode cX5_latest 10 = .ok (.iload_n 1, 1) := by decide +kernel
theorem dX5_latest_11 : decode cX5_latest 11 = .ok (.isub, 1) := by decide +kernel
theorem dX5_latest_12 : decode cX5_latest 12 = .ok (.bipush 40, 2) := by decide +kernel
theorem dX5_latest_14 : decode cX5_latest 14 = .ok (.irem, 1) := by decide +kernel
theorem dX5_latest_15 : decode cX5_latest 15 = .ok (.invokestatic 69, 3) := by decide +kernel
theorem dX5_latest_18 : decode cX5_latest 18 = .ok (.ireturn, 1) := by decide +kernel
theorem dX5_mixCounts_0 : decode cX5_mixCounts 0 = .ok (.lload_n 1, 1) := by decide +kernel
theorem dX5_mixCounts_1 : decode cX5_mixCounts 1 = .ok (.ldc2_w 73, 3) := by decide +kernel
theorem dX5_mixCounts_4 : decode cX5_mixCounts 4 = .ok (.lmul, 1) := by decide +kernel
theorem dX5_mixCounts_5 : decode cX5_mixCounts 5 = .ok (.aload_n 0, 1) := by decide +kernel
theorem dX5_mixCounts_6 : decode cX5_mixCounts 6 = .ok (.getfield 18, 3) := by decide +kernel
theorem dX5_mixCounts_9 : decode cX5_mixCounts 9 = .ok (.i2l, 1) := by decide +kernel
theorem dX5_mixCounts_10 : decode cX5_mixCounts 10 = .ok (.ladd, 1) := by decide +kernel
theorem dX5_mixCounts_11 : decode cX5_mixCounts 11 = .ok (.lstore_n 1, 1) := by decide +kernel
theorem dX5_mixCounts_12 : decode cX5_mixCounts 12 = .ok (.lload_n 1, 1) := by decide +kernel
theorem dX5_mixCounts_13 : decode cX5_mixCounts 13 = .ok (.ldc2_w 73, 3) := by decide +kernel
theorem dX5_mixCounts_16 : decode cX5_mixCounts 16 = .ok (.lmul, 1) := by decide +kernel
theorem dX5_mixCounts_17 : decode cX5_mixCounts 17 = .ok (.aload_n 0, 1) := by decide +kernel
theorem dX5_mixCounts_18 : decode cX5_mixCounts 18 = .ok (.getfield 22, 3) := by decide +kernel
theorem dX5_mixCounts_21 : decode cX5_mixCounts 21 = .ok (.i2l, 1) := by decide +kernel
theorem dX5_mixCounts_22 : decode cX5_mixCounts 22 = .ok (.ladd, 1) := by decide +kernel
theorem dX5_mixCounts_23 : decode cX5_mixCounts 23 = .ok (.lstore_n 1, 1) := by decide +kernel
theorem dX5_mixCounts_24 : decode cX5_mixCounts 24 = .ok (.lload_n 1, 1) := by decide +kernel
theorem dX5_mixCounts_25 : decode cX5_mixCounts 25 = .ok (.ldc2_w 73, 3) := by decide +kernel
theorem dX5_mixCounts_28 : decode cX5_mixCounts 28 = .ok (.lmul, 1) := by decide +kernel
theorem dX5_mixCounts_29 : decode cX5_mixCounts 29 = .ok (.aload_n 0, 1) := by decide +kernel
theorem dX5_mixCounts_30 : decode cX5_mixCounts 30 = .ok (.getfield 25, 3) := by decide +kernel
theorem dX5_mixCounts_33 : decode cX5_mixCounts 33 = .ok (.i2l, 1) := by decide +kernel
theorem dX5_mixCounts_34 : decode cX5_mixCounts 34 = .ok (.ladd, 1) := by decide +kernel
theorem dX5_mixCounts_35 : decode cX5_mixCounts 35 = .ok (.lstore_n 1, 1) := by decide +kernel
theorem dX5_mixCounts_36 : decode cX5_mixCounts 36 = .ok (.lload_n 1, 1) := by decide +kernel
theorem dX5_mixCounts_37 : decode cX5_mixCounts 37 = .ok (.ldc2_w 73, 3) := by decide +kernel
theorem dX5_mixCounts_40 : decode cX5_mixCounts 40 = .ok (.lmul, 1) := by decide +kernel
theorem dX5_mixCounts_41 : decode cX5_mixCounts 41 = .ok (.aload_n 0, 1) := by decide +kernel
theorem dX5_mixCounts_42 : decode cX5_mixCounts 42 = .ok (.getfield 37, 3) := by decide +kernel
theorem dX5_mixCounts_45 : decode cX5_mixCounts 45 = .ok (.i2l, 1) := by decide +kernel
theorem dX5_mixCounts_46 : decode cX5_mixCounts 46 = .ok (.ladd, 1) := by decide +kernel
theorem dX5_mixCounts_47 : decode cX5_mixCounts 47 = .ok (.lstore_n 1, 1) := by decide +kernel
theorem dX5_mixCounts_48 : decode cX5_mixCounts 48 = .ok (.lload_n 1, 1) := by decide +kernel
theorem dX5_mixCounts_49 : decode cX5_mixCounts 49 = .ok (.ldc2_w 73, 3) := by decide +kernel
theorem dX5_mixCounts_52 : decode cX5_mixCounts 52 = .ok (.lmul, 1) := by decide +kernel
theorem dX5_mixCounts_53 : decode cX5_mixCounts 53 = .ok (.aload_n 0, 1) := by decide +kernel
theorem dX5_mixCounts_54 : decode cX5_mixCounts 54 = .ok (.getfield 28, 3) := by decide +kernel
theorem dX5_mixCounts_57 : decode cX5_mixCounts 57 = .ok (.i2l, 1) := by decide +kernel
theorem dX5_mixCounts_58 : decode cX5_mixCounts 58 = .ok (.ladd, 1) := by decide +kernel
theorem dX5_mixCounts_59 : decode cX5_mixCounts 59 = .ok (.lstore_n 1, 1) := by decide +kernel
theorem dX5_mixCounts_60 : decode cX5_mixCounts 60 = .ok (.lload_n 1, 1) := by decide +kernel
theorem dX5_mixCounts_61 : decode cX5_mixCounts 61 = .ok (.ldc2_w 73, 3) := by decide +kernel
theorem dX5_mixCounts_64 : decode cX5_mixCounts 64 = .ok (.lmul, 1) := by decide +kernel
theorem dX5_mixCounts_65 : decode cX5_mixCounts 65 = .ok (.aload_n 0, 1) := by decide +kernel
theorem dX5_mixCounts_66 : decode cX5_mixCounts 66 = .ok (.getfield 31, 3) := by decide +kernel
theorem dX5_mixCounts_69 : decode cX5_mixCounts 69 = .ok (.i2l, 1) := by decide +kernel
theorem dX5_mixCounts_70 : decode cX5_mixCounts 70 = .ok (.ladd, 1) := by decide +kernel
theorem dX5_mixCounts_71 : decode cX5_mixCounts 71 = .ok (.lreturn, 1) := by decide +kernel
theorem dX5_mixOutputs_0 : decode cX5_mixOutputs 0 = .ok (.iconst 0, 1) := by decide +kernel
theorem dX5_mixOutputs_1 : decode cX5_mixOutputs 1 = .ok (.istore_n 3, 1) := by decide +kernel
theorem dX5_mixOutputs_2 : decode cX5_mixOutputs 2 = .ok (.iload_n 3, 1) := by decide +kernel
theorem dX5_mixOutputs_3 : decode cX5_mixOutputs 3 = .ok (.aload_n 0, 1) := by decide +kernel
theorem dX5_mixOutputs_4 : decode cX5_mixOutputs 4 = .ok (.invokevirtual 75, 3) := by decide +kernel
theorem dX5_mixOutputs_7 : decode cX5_mixOutputs 7 = .ok (.if_icmp .ge 22, 3) := by decide +kernel
theorem dX5_mixOutputs_10 : decode cX5_mixOutputs 10 = .ok (.lload_n 1, 1) := by decide +kernel
theorem dX5_mixOutputs_11 : decode cX5_mixOutputs 11 = .ok (.ldc2_w 73, 3) := by decide +kernel
theorem dX5_mixOutputs_14 : decode cX5_mixOutputs 14 = .ok (.lmul, 1) := by decide +kernel
theorem dX5_mixOutputs_15 : decode cX5_mixOutputs 15 = .ok (.aload_n 0, 1) := by decide +kernel
theorem dX5_mixOutputs_16 : decode cX5_mixOutputs 16 = .ok (.iload_n 3, 1) := by decide +kernel
theorem dX5_mixOutputs_17 : decode cX5_mixOutputs 17 = .ok (.invokevirtual 78, 3) := by decide +kernel
theorem dX5_mixOutputs_20 : decode cX5_mixOutputs 20 = .ok (.i2l, 1) := by decide +kernel
theorem dX5_mixOutputs_21 : decode cX5_mixOutputs 21 = .ok (.ladd, 1) := by decide +kernel
theorem dX5_mixOutputs_22 : decode cX5_mixOutputs 22 = .ok (.lstore_n 1, 1) := by decide +kernel
theorem dX5_mixOutputs_23 : decode cX5_mixOutputs 23 = .ok (.iinc 3 1, 3) := by decide +kernel
theorem dX5_mixOutputs_26 : decode cX5_mixOutputs 26 = .ok (.goto (-24), 3) := by decide +kernel
theorem dX5_mixOutputs_29 : decode cX5_mixOutputs 29 = .ok (.lload_n 1, 1) := by decide +kernel
theorem dX5_mixOutputs_30 : decode cX5_mixOutputs 30 = .ok (.lreturn, 1) := by decide +kernel
theorem dX5_read_0 : decode cX5_read 0 = .ok (.iload_n 1, 1) := by decide +kernel
theorem dX5_read_1 : decode cX5_read 1 = .ok (.tableswitch 187 0 15 #[79, 84, 89, 94, 103, 108, 113, 122, 135, 140, 145, 154, 163, 172, 187, 181], 79) := by decide +kernel
theorem dX5_read_80 : decode cX5_read 80 = .ok (.aload_n 0, 1) := by decide +kernel
theorem dX5_read_81 : decode cX5_read 81 = .ok (.getfield 18, 3) := by decide +kernel
theorem dX5_read_84 : decode cX5_read 84 = .ok (.ireturn, 1) := by decide +kernel
theorem dX5_read_85 : decode cX5_read 85 = .ok (.aload_n 0, 1) := by decide +kernel
theorem dX5_read_86 : decode cX5_read 86 = .ok (.getfield 22, 3) := by decide +kernel
theorem dX5_read_89 : decode cX5_read 89 = .ok (.ireturn, 1) := by decide +kernel
theorem dX5_read_90 : decode cX5_read 90 = .ok (.aload_n 0, 1) := by decide +kernel
theorem dX5_read_91 : decode cX5_read 91 = .ok (.getfield 25, 3) := by decide +kernel
theorem dX5_read_94 : decode cX5_read 94 = .ok (.ireturn, 1) := by decide +kernel
theorem dX5_read_95 : decode cX5_read 95 = .ok (.aload_n 0, 1) := by decide +kernel
theorem dX5_read_96 : decode cX5_read 96 = .ok (.getfield 31, 3) := by decide +kernel
theorem dX5_read_99 : decode cX5_read 99 = .ok (.sipush 256, 3) := by decide +kernel
theorem dX5_read_102 : decode cX5_read 102 = .ok (.irem, 1) := by decide +kernel
theorem dX5_read_103 : decode cX5_read 103 = .ok (.ireturn, 1) := by decide +kernel
theorem dX5_read_104 : decode cX5_read 104 = .ok (.aload_n 0, 1) := by decide +kernel
theorem dX5_read_105 : decode cX5_read 105 = .ok (.invokevirtual 82, 3) := by decide +kernel
theorem dX5_read_108 : decode cX5_read 108 = .ok (.ireturn, 1) := by decide +kernel
theorem dX5_read_109 : decode cX5_read 109 = .ok (.aload_n 0, 1) := by decide +kernel
theorem dX5_read_110 : decode cX5_read 110 = .ok (.getfield 28, 3) := by decide +kernel
theorem dX5_read_113 : decode cX5_read 113 = .ok (.ireturn, 1) := by decide +kernel
theorem dX5_read_114 : decode cX5_read 114 = .ok (.aload_n 0, 1) := by decide +kernel
theorem dX5_read_115 : decode cX5_read 115 = .ok (.getfield 37, 3) := by decide +kernel
theorem dX5_read_118 : decode cX5_read 118 = .ok (.sipush 256, 3) := by decide +kernel
theorem dX5_read_121 : decode cX5_read 121 = .ok (.irem, 1) := by decide +kernel
theorem dX5_read_122 : decode cX5_read 122 = .ok (.ireturn, 1) := by decide +kernel
theorem dX5_read_123 : decode cX5_read 123 = .ok (.aload_n 0, 1) := by decide +kernel
theorem dX5_read_124 : decode cX5_read 124 = .ok (.getfield 37, 3) := by decide +kernel
theorem dX5_read_127 : decode cX5_read 127 = .ok (.sipush 256, 3) := by decide +kernel
theorem dX5_read_130 : decode cX5_read 130 = .ok (.idiv, 1) := by decide +kernel
theorem dX5_read_131 : decode cX5_read 131 = .ok (.sipush 256, 3) := by decide +kernel
theorem dX5_read_134 : decode cX5_read 134 = .ok (.irem, 1) := by decide +kernel
theorem dX5_read_135 : decode cX5_read 135 = .ok (.ireturn, 1) := by decide +kernel
theorem dX5_read_136 : decode cX5_read 136 = .ok (.aload_n 0, 1) := by decide +kernel
theorem dX5_read_137 : decode cX5_read 137 = .ok (.getfield 40, 3) := by decide +kernel
theorem dX5_read_140 : decode cX5_read 140 = .ok (.ireturn, 1) := by decide +kernel
theorem dX5_read_141 : decode cX5_read 141 = .ok (.aload_n 0, 1) := by decide +kernel
theorem dX5_read_142 : decode cX5_read 142 = .ok (.invokevirtual 85, 3) := by decide +kernel
theorem dX5_read_145 : decode cX5_read 145 = .ok (.ireturn, 1) := by decide +kernel
theorem dX5_read_146 : decode cX5_read 146 = .ok (.aload_n 0, 1) := by decide +kernel
theorem dX5_read_147 : decode cX5_read 147 = .ok (.getfield 46, 3) := by decide +kernel
theorem dX5_read_150 : decode cX5_read 150 = .ok (.sipush 256, 3) := by decide +kernel
theorem dX5_read_153 : decode cX5_read 153 = .ok (.irem, 1) := by decide +kernel
theorem dX5_read_154 : decode cX5_read 154 = .ok (.ireturn, 1) := by decide +kernel
theorem dX5_read_155 : decode cX5_read 155 = .ok (.aload_n 0, 1) := by decide +kernel
theorem dX5_read_156 : decode cX5_read 156 = .ok (.getfield 46, 3) := by decide +kernel
theorem dX5_read_159 : decode cX5_read 159 = .ok (.sipush 256, 3) := by decide +kernel
theorem dX5_read_162 : decode cX5_read 162 = .ok (.idiv, 1) := by decide +kernel
theorem dX5_read_163 : decode cX5_read 163 = .ok (.ireturn, 1) := by decide +kernel
theorem dX5_read_164 : decode cX5_read 164 = .ok (.aload_n 0, 1) := by decide +kernel
theorem dX5_read_165 : decode cX5_read 165 = .ok (.getfield 49, 3) := by decide +kernel
theorem dX5_read_168 : decode cX5_read 168 = .ok (.sipush 256, 3) := by decide +kernel
theorem dX5_read_171 : decode cX5_read 171 = .ok (.irem, 1) := by decide +kernel
theorem dX5_read_172 : decode cX5_read 172 = .ok (.ireturn, 1) := by decide +kernel
theorem dX5_read_173 : decode cX5_read 173 = .ok (.aload_n 0, 1) := by decide +kernel
theorem dX5_read_174 : decode cX5_read 174 = .ok (.getfield 49, 3) := by decide +kernel
theorem dX5_read_177 : decode cX5_read 177 = .ok (.sipush 256, 3) := by decide +kernel
theorem dX5_read_180 : decode cX5_read 180 = .ok (.idiv, 1) := by decide +kernel
theorem dX5_read_181 : decode cX5_read 181 = .ok (.ireturn, 1) := by decide +kernel
theorem dX5_read_182 : decode cX5_read 182 = .ok (.iload_n 2, 1) := by decide +kernel
theorem dX5_read_183 : decode cX5_read 183 = .ok (.sipush 256, 3) := by decide +kernel
theorem dX5_read_186 : decode cX5_read 186 = .ok (.irem, 1) := by decide +kernel
theorem dX5_read_187 : decode cX5_read 187 = .ok (.ireturn, 1) := by decide +kernel
theorem dX5_read_188 : decode cX5_read 188 = .ok (.iconst 0, 1) := by decide +kernel
theorem dX5_read_189 : decode cX5_read 189 = .ok (.ireturn, 1) := by decide +kernel
theorem dX5_write_0 : decode cX5_write 0 = .ok (.iload_n 1, 1) := by decide +kernel
theorem dX5_write_1 : decode cX5_write 1 = .ok (.tableswitch 282 0 14 #[75, 86, 97, 112, 282, 282, 140, 156, 172, 198, 210, 226, 242, 258, 274], 75) := by decide +kernel
theorem dX5_write_76 : decode cX5_write 76 = .ok (.aload_n 0, 1) := by decide +kernel
theorem dX5_write_77 : decode cX5_write 77 = .ok (.iload_n 2, 1) := by decide +kernel
theorem dX5_write_78 : decode cX5_write 78 = .ok (.bipush 8, 2) := by decide +kernel
theorem dX5_write_80 : decode cX5_write 80 = .ok (.irem, 1) := by decide +kernel
theorem dX5_write_81 : decode cX5_write 81 = .ok (.putfield 18, 3) := by decide +kernel
theorem dX5_write_84 : decode cX5_write 84 = .ok (.goto 199, 3) := by decide +kernel
theorem dX5_write_87 : decode cX5_write 87 = .ok (.aload_n 0, 1) := by decide +kernel
theorem dX5_write_88 : decode cX5_write 88 = .ok (.iload_n 2, 1) := by decide +kernel
theorem dX5_write_89 : decode cX5_write 89 = .ok (.bipush 16, 2) := by decide +kernel
theorem dX5_write_91 : decode cX5_write 91 = .ok (.irem, 1) := by decide +kernel
theorem dX5_write_92 : decode cX5_write 92 = .ok (.putfield 22, 3) := by decide +kernel
theorem dX5_write_95 : decode cX5_write 95 = .ok (.goto 188, 3) := by decide +kernel
theorem dX5_write_98 : decode cX5_write 98 = .ok (.aload_n 0, 1) := by decide +kernel
theorem dX5_write_99 : decode cX5_write 99 = .ok (.dup, 1) := by decide +kernel
theorem dX5_write_100 : decode cX5_write 100 = .ok (.getfield 25, 3) := by decide +kernel
theorem dX5_write_103 : decode cX5_write 103 = .ok (.iload_n 2, 1) := by decide +kernel
theorem dX5_write_104 : decode cX5_write 104 = .ok (.iconst (-1), 1) := by decide +kernel
theorem dX5_write_105 : decode cX5_write 105 = .ok (.ixor, 1) := by decide +kernel
theorem dX5_write_106 : decode cX5_write 106 = .ok (.iand, 1) := by decide +kernel
theorem dX5_write_107 : decode cX5_write 107 = .ok (.putfield 25, 3) := by decide +kernel
theorem dX5_write_110 : decode cX5_write 110 = .ok (.goto 173, 3) := by decide +kernel
theorem dX5_write_113 : decode cX5_write 113 = .ok (.aload_n 0, 1) := by decide +kernel
theorem dX5_write_114 : decode cX5_write 114 = .ok (.getfield 15, 3) := by decide +kernel
theorem dX5_write_117 : decode cX5_write 117 = .ok (.aload_n 0, 1) := by decide +kernel
theorem dX5_write_118 : decode cX5_write 118 = .ok (.getfield 31, 3) := by decide +kernel
theorem dX5_write_121 : decode cX5_write 121 = .ok (.bipush 40, 2) := by decide +kernel
theorem dX5_write_123 : decode cX5_write 123 = .ok (.irem, 1) := by decide +kernel
theorem dX5_write_124 : decode cX5_write 124 = .ok (.iload_n 2, 1) := by decide +kernel
theorem dX5_write_125 : decode cX5_write 125 = .ok (.invokestatic 61, 3) := by decide +kernel
theorem dX5_write_128 : decode cX5_write 128 = .ok (.aload_n 0, 1) := by decide +kernel
theorem dX5_write_129 : decode cX5_write 129 = .ok (.dup, 1) := by decide +kernel
theorem dX5_write_130 : decode cX5_write 130 = .ok (.getfield 31, 3) := by decide +kernel
theorem dX5_write_133 : decode cX5_write 133 = .ok (.iconst 1, 1) := by decide +kernel
theorem dX5_write_134 : decode cX5_write 134 = .ok (.iadd, 1) := by decide +kernel
theorem dX5_write_135 : decode cX5_write 135 = .ok (.putfield 31, 3) := by decide +kernel
theorem dX5_write_138 : decode cX5_write 138 = .ok (.goto 145, 3) := by decide +kernel
theorem dX5_write_141 : decode cX5_write 141 = .ok (.aload_n 0, 1) := by decide +kernel
theorem dX5_write_142 : decode cX5_write 142 = .ok (.aload_n 0, 1) := by decide +kernel
theorem dX5_write_143 : decode cX5_write 143 = .ok (.aload_n 0, 1) := by decide +kernel
theorem dX5_write_144 : decode cX5_write 144 = .ok (.getfield 34, 3) := by decide +kernel
theorem dX5_write_147 : decode cX5_write 147 = .ok (.iload_n 2, 1) := by decide +kernel
theorem dX5_write_148 : decode cX5_write 148 = .ok (.invokevirtual 88, 3) := by decide +kernel
theorem dX5_write_151 : decode cX5_write 151 = .ok (.putfield 34, 3) := by decide +kernel
theorem dX5_write_154 : decode cX5_write 154 = .ok (.goto 129, 3) := by decide +kernel
theorem dX5_write_157 : decode cX5_write 157 = .ok (.aload_n 0, 1) := by decide +kernel
theorem dX5_write_158 : decode cX5_write 158 = .ok (.aload_n 0, 1) := by decide +kernel
theorem dX5_write_159 : decode cX5_write 159 = .ok (.aload_n 0, 1) := by decide +kernel
theorem dX5_write_160 : decode cX5_write 160 = .ok (.getfield 34, 3) := by decide +kernel
theorem dX5_write_163 : decode cX5_write 163 = .ok (.iload_n 2, 1) := by decide +kernel
theorem dX5_write_164 : decode cX5_write 164 = .ok (.invokevirtual 92, 3) := by decide +kernel
theorem dX5_write_167 : decode cX5_write 167 = .ok (.putfield 34, 3) := by decide +kernel
theorem dX5_write_170 : decode cX5_write 170 = .ok (.goto 113, 3) := by decide +kernel
theorem dX5_write_173 : decode cX5_write 173 = .ok (.iload_n 2, 1) := by decide +kernel
theorem dX5_write_174 : decode cX5_write 174 = .ok (.iconst 1, 1) := by decide +kernel
theorem dX5_write_175 : decode cX5_write 175 = .ok (.iand, 1) := by decide +kernel
theorem dX5_write_176 : decode cX5_write 176 = .ok (.aload_n 0, 1) := by decide +kernel
theorem dX5_write_177 : decode cX5_write 177 = .ok (.getfield 40, 3) := by decide +kernel
theorem dX5_write_180 : decode cX5_write 180 = .ok (.iconst 1, 1) := by decide +kernel
theorem dX5_write_181 : decode cX5_write 181 = .ok (.iand, 1) := by decide +kernel
theorem dX5_write_182 : decode cX5_write 182 = .ok (.if_icmp .le 7, 3) := by decide +kernel
theorem dX5_write_185 : decode cX5_write 185 = .ok (.aload_n 0, 1) := by decide +kernel
theorem dX5_write_186 : decode cX5_write 186 = .ok (.invokevirtual 95, 3) := by decide +kernel
theorem dX5_write_189 : decode cX5_write 189 = .ok (.aload_n 0, 1) := by decide +kernel
theorem dX5_write_190 : decode cX5_write 190 = .ok (.iload_n 2, 1) := by decide +kernel
theorem dX5_write_191 : decode cX5_write 191 = .ok (.iconst 4, 1) := by decide +kernel
theorem dX5_write_192 : decode cX5_write 192 = .ok (.irem, 1) := by decide +kernel
theorem dX5_write_193 : decode cX5_write 193 = .ok (.putfield 40, 3) := by decide +kernel
theorem dX5_write_196 : decode cX5_write 196 = .ok (.goto 87, 3) := by decide +kernel
theorem dX5_write_199 : decode cX5_write 199 = .ok (.aload_n 0, 1) := by decide +kernel
theorem dX5_write_200 : decode cX5_write 200 = .ok (.iload_n 2, 1) := by decide +kernel
theorem dX5_write_201 : decode cX5_write 201 = .ok (.sipush 256, 3) := by decide +kernel
theorem dX5_write_204 : decode cX5_write 204 = .ok (.iadd, 1) := by decide +kernel
theorem dX5_write_205 : decode cX5_write 205 = .ok (.putfield 43, 3) := by decide +kernel
theorem dX5_write_208 : decode cX5_write 208 = .ok (.goto 75, 3) := by decide +kernel
theorem dX5_write_211 : decode cX5_write 211 = .ok (.aload_n 0, 1) := by decide +kernel
theorem dX5_write_212 : decode cX5_write 212 = .ok (.aload_n 0, 1) := by decide +kernel
theorem dX5_write_213 : decode cX5_write 213 = .ok (.aload_n 0, 1) := by decide +kernel
theorem dX5_write_214 : decode cX5_write 214 = .ok (.getfield 46, 3) := by decide +kernel
theorem dX5_write_217 : decode cX5_write 217 = .ok (.iload_n 2, 1) := by decide +kernel
theorem dX5_write_218 : decode cX5_write 218 = .ok (.invokevirtual 88, 3) := by decide +kernel
theorem dX5_write_221 : decode cX5_write 221 = .ok (.putfield 46, 3) := by decide +kernel
theorem dX5_write_224 : decode cX5_write 224 = .ok (.goto 59, 3) := by decide +kernel
theorem dX5_write_227 : decode cX5_write 227 = .ok (.aload_n 0, 1) := by decide +kernel
theorem dX5_write_228 : decode cX5_write 228 = .ok (.aload_n 0, 1) := by decide +kernel
theorem dX5_write_229 : decode cX5_write 229 = .ok (.aload_n 0, 1) := by decide +kernel
theorem dX5_write_230 : decode cX5_write 230 = .ok (.getfield 46, 3) := by decide +kernel
theorem dX5_write_233 : decode cX5_write 233 = .ok (.iload_n 2, 1) := by decide +kernel
theorem dX5_write_234 : decode cX5_write 234 = .ok (.invokevirtual 92, 3) := by decide +kernel
theorem dX5_write_237 : decode cX5_write 237 = .ok (.putfield 46, 3) := by decide +kernel
theorem dX5_write_240 : decode cX5_write 240 = .ok (.goto 43, 3) := by decide +kernel
theorem dX5_write_243 : decode cX5_write 243 = .ok (.aload_n 0, 1) := by decide +kernel
theorem dX5_write_244 : decode cX5_write 244 = .ok (.aload_n 0, 1) := by decide +kernel
theorem dX5_write_245 : decode cX5_write 245 = .ok (.aload_n 0, 1) := by decide +kernel
theorem dX5_write_246 : decode cX5_write 246 = .ok (.getfield 49, 3) := by decide +kernel
theorem dX5_write_249 : decode cX5_write 249 = .ok (.iload_n 2, 1) := by decide +kernel
theorem dX5_write_250 : decode cX5_write 250 = .ok (.invokevirtual 88, 3) := by decide +kernel
theorem dX5_write_253 : decode cX5_write 253 = .ok (.putfield 49, 3) := by decide +kernel
theorem dX5_write_256 : decode cX5_write 256 = .ok (.goto 27, 3) := by decide +kernel
theorem dX5_write_259 : decode cX5_write 259 = .ok (.aload_n 0, 1) := by decide +kernel
theorem dX5_write_260 : decode cX5_write 260 = .ok (.aload_n 0, 1) := by decide +kernel
theorem dX5_write_261 : decode cX5_write 261 = .ok (.aload_n 0, 1) := by decide +kernel
theorem dX5_write_262 : decode cX5_write 262 = .ok (.getfield 49, 3) := by decide +kernel
theorem dX5_write_265 : decode cX5_write 265 = .ok (.iload_n 2, 1) := by decide +kernel
theorem dX5_write_266 : decode cX5_write 266 = .ok (.invokevirtual 92, 3) := by decide +kernel
theorem dX5_write_269 : decode cX5_write 269 = .ok (.putfield 49, 3) := by decide +kernel
theorem dX5_write_272 : decode cX5_write 272 = .ok (.goto 11, 3) := by decide +kernel
theorem dX5_write_275 : decode cX5_write 275 = .ok (.aload_n 0, 1) := by decide +kernel
theorem dX5_write_276 : decode cX5_write 276 = .ok (.iload_n 2, 1) := by decide +kernel
theorem dX5_write_277 : decode cX5_write 277 = .ok (.putfield 52, 3) := by decide +kernel
theorem dX5_write_280 : decode cX5_write 280 = .ok (.goto 3, 3) := by decide +kernel
theorem dX5_write_283 : decode cX5_write 283 = .ok (.return_, 1) := by decide +kernel
theorem dX5_firstInput_0 : decode cX5_firstInput 0 = .ok (.aload_n 0, 1) := by decide +kernel
theorem dX5_firstInput_1 : decode cX5_firstInput 1 = .ok (.getfield 28, 3) := by decide +kernel
theorem dX5_firstInput_4 : decode cX5_firstInput 4 = .ok (.ifCond .eq 11, 3) := by decide +kernel
theorem dX5_firstInput_7 : decode cX5_firstInput 7 = .ok (.aload_n 0, 1) := by decide +kernel
theorem dX5_firstInput_8 : decode cX5_firstInput 8 = .ok (.getfield 9, 3) := by decide +kernel
theorem dX5_firstInput_11 : decode cX5_firstInput 11 = .ok (.arraylength, 1) := by decide +kernel
theorem dX5_firstInput_12 : decode cX5_firstInput 12 = .ok (.ifCond .ne 5, 3) := by decide +kernel
theorem dX5_firstInput_15 : decode cX5_firstInput 15 = .ok (.iconst 0, 1) := by decide +kernel
theorem dX5_firstInput_16 : decode cX5_firstInput 16 = .ok (.ireturn, 1) := by decide +kernel
theorem dX5_firstInput_17 : decode cX5_firstInput 17 = .ok (.aload_n 0, 1) := by decide +kernel
theorem dX5_firstInput_18 : decode cX5_firstInput 18 = .ok (.getfield 9, 3) := by decide +kernel
theorem dX5_firstInput_21 : decode cX5_firstInput 21 = .ok (.iconst 0, 1) := by decide +kernel
theorem dX5_firstInput_22 : decode cX5_firstInput 22 = .ok (.iaload, 1) := by decide +kernel
theorem dX5_firstInput_23 : decode cX5_firstInput 23 = .ok (.istore_n 1, 1) := by decide +kernel
theorem dX5_firstInput_24 : decode cX5_firstInput 24 = .ok (.iconst 1, 1) := by decide +kernel
theorem dX5_firstInput_25 : decode cX5_firstInput 25 = .ok (.istore_n 2, 1) := by decide +kernel
theorem dX5_firstInput_26 : decode cX5_firstInput 26 = .ok (.iload_n 2, 1) := by decide +kernel
theorem dX5_firstInput_27 : decode cX5_firstInput 27 = .ok (.aload_n 0, 1) := by decide +kernel
theorem dX5_firstInput_28 : decode cX5_firstInput 28 = .ok (.getfield 9, 3) := by decide +kernel
theorem dX5_firstInput_31 : decode cX5_firstInput 31 = .ok (.arraylength, 1) := by decide +kernel
theorem dX5_firstInput_32 : decode cX5_firstInput 32 = .ok (.if_icmp .ge 23, 3) := by decide +kernel
theorem dX5_firstInput_35 : decode cX5_firstInput 35 = .ok (.aload_n 0, 1) := by decide +kernel
theorem dX5_firstInput_36 : decode cX5_firstInput 36 = .ok (.getfield 9, 3) := by decide +kernel
theorem dX5_firstInput_39 : decode cX5_firstInput 39 = .ok (.iload_n 2, 1) := by decide +kernel
theorem dX5_firstInput_40 : decode cX5_firstInput 40 = .ok (.iconst 1, 1) := by decide +kernel
theorem dX5_firstInput_41 : decode cX5_firstInput 41 = .ok (.isub, 1) := by decide +kernel
theorem dX5_firstInput_42 : decode cX5_firstInput 42 = .ok (.aload_n 0, 1) := by decide +kernel
theorem dX5_firstInput_43 : decode cX5_firstInput 43 = .ok (.getfield 9, 3) := by decide +kernel
theorem dX5_firstInput_46 : decode cX5_firstInput 46 = .ok (.iload_n 2, 1) := by decide +kernel
theorem dX5_firstInput_47 : decode cX5_firstInput 47 = .ok (.iaload, 1) := by decide +kernel
theorem dX5_firstInput_48 : decode cX5_firstInput 48 = .ok (.iastore, 1) := by decide +kernel
theorem dX5_firstInput_49 : decode cX5_firstInput 49 = .ok (.iinc 2 1, 3) := by decide +kernel
theorem dX5_firstInput_52 : decode cX5_firstInput 52 = .ok (.goto (-26), 3) := by decide +kernel
theorem dX5_firstInput_55 : decode cX5_firstInput 55 = .ok (.aload_n 0, 1) := by decide +kernel
theorem dX5_firstInput_56 : decode cX5_firstInput 56 = .ok (.dup, 1) := by decide +kernel
theorem dX5_firstInput_57 : decode cX5_firstInput 57 = .ok (.getfield 28, 3) := by decide +kernel
theorem dX5_firstInput_60 : decode cX5_firstInput 60 = .ok (.iconst 1, 1) := by decide +kernel
theorem dX5_firstInput_61 : decode cX5_firstInput 61 = .ok (.isub, 1) := by decide +kernel
theorem dX5_firstInput_62 : decode cX5_firstInput 62 = .ok (.putfield 28, 3) := by decide +kernel
theorem dX5_firstInput_65 : decode cX5_firstInput 65 = .ok (.iload_n 1, 1) := by decide +kernel
theorem dX5_firstInput_66 : decode cX5_firstInput 66 = .ok (.ireturn, 1) := by decide +kernel
theorem dX5_nextRandom_0 : decode cX5_nextRandom 0 = .ok (.aload_n 0, 1) := by decide +kernel
theorem dX5_nextRandom_1 : decode cX5_nextRandom 1 = .ok (.aload_n 0, 1) := by decide +kernel
theorem dX5_nextRandom_2 : decode cX5_nextRandom 2 = .ok (.getfield 43, 3) := by decide +kernel
theorem dX5_nextRandom_5 : decode cX5_nextRandom 5 = .ok (.iconst 1, 1) := by decide +kernel
theorem dX5_nextRandom_6 : decode cX5_nextRandom 6 = .ok (.iand, 1) := by decide +kernel
theorem dX5_nextRandom_7 : decode cX5_nextRandom 7 = .ok (.ifCond .ne 12, 3) := by decide +kernel
theorem dX5_nextRandom_10 : decode cX5_nextRandom 10 = .ok (.aload_n 0, 1) := by decide +kernel
theorem dX5_nextRandom_11 : decode cX5_nextRandom 11 = .ok (.getfield 43, 3) := by decide +kernel
theorem dX5_nextRandom_14 : decode cX5_nextRandom 14 = .ok (.iconst 2, 1) := by decide +kernel
theorem dX5_nextRandom_15 : decode cX5_nextRandom 15 = .ok (.idiv, 1) := by decide +kernel
theorem dX5_nextRandom_16 : decode cX5_nextRandom 16 = .ok (.goto 12, 3) := by decide +kernel
theorem dX5_nextRandom_19 : decode cX5_nextRandom 19 = .ok (.aload_n 0, 1) := by decide +kernel
theorem dX5_nextRandom_20 : decode cX5_nextRandom 20 = .ok (.getfield 43, 3) := by decide +kernel
theorem dX5_nextRandom_23 : decode cX5_nextRandom 23 = .ok (.iconst 2, 1) := by decide +kernel
theorem dX5_nextRandom_24 : decode cX5_nextRandom 24 = .ok (.idiv, 1) := by decide +kernel
theorem dX5_nextRandom_25 : decode cX5_nextRandom 25 = .ok (.ldc 98, 2) := by decide +kernel
theorem dX5_nextRandom_27 : decode cX5_nextRandom 27 = .ok (.ixor, 1) := by decide +kernel
theorem dX5_nextRandom_28 : decode cX5_nextRandom 28 = .ok (.putfield 43, 3) := by decide +kernel
theorem dX5_nextRandom_31 : decode cX5_nextRandom 31 = .ok (.aload_n 0, 1) := by decide +kernel
theorem dX5_nextRandom_32 : decode cX5_nextRandom 32 = .ok (.getfield 43, 3) := by decide +kernel
theorem dX5_nextRandom_35 : decode cX5_nextRandom 35 = .ok (.sipush 256, 3) := by decide +kernel
theorem dX5_nextRandom_38 : decode cX5_nextRandom 38 = .ok (.irem, 1) := by decide +kernel
theorem dX5_nextRandom_39 : decode cX5_nextRandom 39 = .ok (.ireturn, 1) := by decide +kernel
theorem dX5_withLow_0 : decode cX5_withLow 0 = .ok (.iload_n 1, 1) := by decide +kernel
theorem dX5_withLow_1 : decode cX5_withLow 1 = .ok (.sipush 256, 3) := by decide +kernel
theorem dX5_withLow_4 : decode cX5_withLow 4 = .ok (.idiv, 1) := by decide +kernel
theorem dX5_withLow_5 : decode cX5_withLow 5 = .ok (.sipush 256, 3) := by decide +kernel
theorem dX5_withLow_8 : decode cX5_withLow 8 = .ok (.imul, 1) := by decide +kernel
theorem dX5_withLow_9 : decode cX5_withLow 9 = .ok (.iload_n 2, 1) := by decide +kernel
theorem dX5_withLow_10 : decode cX5_withLow 10 = .ok (.iadd, 1) := by decide +kernel
theorem dX5_withLow_11 : decode cX5_withLow 11 = .ok (.ireturn, 1) := by decide +kernel
theorem dX5_withHigh_0 : decode cX5_withHigh 0 = .ok (.iload_n 2, 1) := by decide +kernel
theorem dX5_withHigh_1 : decode cX5_withHigh 1 = .ok (.sipush 256, 3) := by decide +kernel
theorem dX5_withHigh_4 : decode cX5_withHigh 4 = .ok (.imul, 1) := by decide +kernel
theorem dX5_withHigh_5 : decode cX5_withHigh 5 = .ok (.iload_n 1, 1) := by decide +kernel
theorem dX5_withHigh_6 : decode cX5_withHigh 6 = .ok (.sipush 256, 3) := by decide +kernel
theorem dX5_withHigh_9 : decode cX5_withHigh 9 = .ok (.irem, 1) := by decide +kernel
theorem dX5_withHigh_10 : decode cX5_withHigh 10 = .ok (.iadd, 1) := by decide +kernel
theorem dX5_withHigh_11 : decode cX5_withHigh 11 = .ok (.ireturn, 1) := by decide +kernel
theorem dX5_wind_0 : decode cX5_wind 0 = .ok (.aload_n 0, 1) := by decide +kernel
theorem dX5_wind_1 : decode cX5_wind 1 = .ok (.aload_n 0, 1) := by decide +kernel
theorem dX5_wind_2 : decode cX5_wind 2 = .ok (.getfield 34, 3) := by decide +kernel
theorem dX5_wind_5 : decode cX5_wind 5 = .ok (.ifCond .ne 8, 3) := by decide +kernel
theorem dX5_wind_8 : decode cX5_wind 8 = .ok (.ldc 99, 2) := by decide +kernel
theorem dX5_wind_10 : decode cX5_wind 10 = .ok (.goto 7, 3) := by decide +kernel
theorem dX5_wind_13 : decode cX5_wind 13 = .ok (.aload_n 0, 1) := by decide +kernel
theorem dX5_wind_14 : decode cX5_wind 14 = .ok (.getfield 34, 3) := by decide +kernel
theorem dX5_wind_17 : decode cX5_wind 17 = .ok (.putfield 37, 3) := by decide +kernel
theorem dX5_wind_20 : decode cX5_wind 20 = .ok (.return_, 1) := by decide +kernel
theorem dX5_pass_0 : decode cX5_pass 0 = .ok (.iconst 0, 1) := by decide +kernel
theorem dX5_pass_1 : decode cX5_pass 1 = .ok (.istore_n 2, 1) := by decide +kernel
theorem dX5_pass_2 : decode cX5_pass 2 = .ok (.iload_n 2, 1) := by decide +kernel
theorem dX5_pass_3 : decode cX5_pass 3 = .ok (.iload_n 1, 1) := by decide +kernel
theorem dX5_pass_4 : decode cX5_pass 4 = .ok (.if_icmp .ge 39, 3) := by decide +kernel
theorem dX5_pass_7 : decode cX5_pass 7 = .ok (.aload_n 0, 1) := by decide +kernel
theorem dX5_pass_8 : decode cX5_pass 8 = .ok (.getfield 40, 3) := by decide +kernel
theorem dX5_pass_11 : decode cX5_pass 11 = .ok (.iconst 1, 1) := by decide +kernel
theorem dX5_pass_12 : decode cX5_pass 12 = .ok (.iand, 1) := by decide +kernel
theorem dX5_pass_13 : decode cX5_pass 13 = .ok (.ifCond .eq 30, 3) := by decide +kernel
theorem dX5_pass_16 : decode cX5_pass 16 = .ok (.aload_n 0, 1) := by decide +kernel
theorem dX5_pass_17 : decode cX5_pass 17 = .ok (.dup, 1) := by decide +kernel
theorem dX5_pass_18 : decode cX5_pass 18 = .ok (.getfield 37, 3) := by decide +kernel
theorem dX5_pass_21 : decode cX5_pass 21 = .ok (.iconst 1, 1) := by decide +kernel
theorem dX5_pass_22 : decode cX5_pass 22 = .ok (.isub, 1) := by decide +kernel
theorem dX5_pass_23 : decode cX5_pass 23 = .ok (.putfield 37, 3) := by decide +kernel
theorem dX5_pass_26 : decode cX5_pass 26 = .ok (.aload_n 0, 1) := by decide +kernel
theorem dX5_pass_27 : decode cX5_pass 27 = .ok (.getfield 37, 3) := by decide +kernel
theorem dX5_pass_30 : decode cX5_pass 30 = .ok (.ifCond .ne 7, 3) := by decide +kernel
theorem dX5_pass_33 : decode cX5_pass 33 = .ok (.aload_n 0, 1) := by decide +kernel
theorem dX5_pass_34 : decode cX5_pass 34 = .ok (.invokevirtual 100, 3) := by decide +kernel
theorem dX5_pass_37 : decode cX5_pass 37 = .ok (.iinc 2 1, 3) := by decide +kernel
theorem dX5_pass_40 : decode cX5_pass 40 = .ok (.goto (-38), 3) := by decide +kernel
theorem dX5_pass_43 : decode cX5_pass 43 = .ok (.return_, 1) := by decide +kernel
theorem dX5_ring_0 : decode cX5_ring 0 = .ok (.aload_n 0, 1) := by decide +kernel
theorem dX5_ring_1 : decode cX5_ring 1 = .ok (.dup, 1) := by decide +kernel
theorem dX5_ring_2 : decode cX5_ring 2 = .ok (.getfield 25, 3) := by decide +kernel
theorem dX5_ring_5 : decode cX5_ring 5 = .ok (.iconst 1, 1) := by decide +kernel
theorem dX5_ring_6 : decode cX5_ring 6 = .ok (.ior, 1) := by decide +kernel
theorem dX5_ring_7 : decode cX5_ring 7 = .ok (.putfield 25, 3) := by decide +kernel
theorem dX5_ring_10 : decode cX5_ring 10 = .ok (.aload_n 0, 1) := by decide +kernel
theorem dX5_ring_11 : decode cX5_ring 11 = .ok (.getfield 40, 3) := by decide +kernel
theorem dX5_ring_14 : decode cX5_ring 14 = .ok (.iconst 2, 1) := by decide +kernel
theorem dX5_ring_15 : decode cX5_ring 15 = .ok (.iand, 1) := by decide +kernel
theorem dX5_ring_16 : decode cX5_ring 16 = .ok (.ifCond .eq 10, 3) := by decide +kernel
theorem dX5_ring_19 : decode cX5_ring 19 = .ok (.aload_n 0, 1) := by decide +kernel
theorem dX5_ring_20 : decode cX5_ring 20 = .ok (.invokevirtual 95, 3) := by decide +kernel
theorem dX5_ring_23 : decode cX5_ring 23 = .ok (.goto 14, 3) := by decide +kernel
theorem dX5_ring_26 : decode cX5_ring 26 = .ok (.aload_n 0, 1) := by decide +kernel
theorem dX5_ring_27 : decode cX5_ring 27 = .ok (.dup, 1) := by decide +kernel
theorem dX5_ring_28 : decode cX5_ring 28 = .ok (.getfield 40, 3) := by decide +kernel
theorem dX5_ring_31 : decode cX5_ring 31 = .ok (.bipush (-2), 2) := by decide +kernel
theorem dX5_ring_33 : decode cX5_ring 33 = .ok (.iand, 1) := by decide +kernel
theorem dX5_ring_34 : decode cX5_ring 34 = .ok (.putfield 40, 3) := by decide +kernel
theorem dX5_ring_37 : decode cX5_ring 37 = .ok (.return_, 1) := by decide +kernel
theorem dX6_init_0 : decode cX6_init 0 = .ok (.aload_n 0, 1) := by decide +kernel
theorem dX6_init_1 : decode cX6_init 1 = .ok (.invokespecial 3, 3) := by decide +kernel
theorem dX6_init_4 : decode cX6_init 4 = .ok (.aload_n 0, 1) := by decide +kernel
theorem dX6_init_5 : decode cX6_init 5 = .ok (.sipush 4096, 3) := by decide +kernel
theorem dX6_init_8 : decode cX6_init 8 = .ok (.newarray .int, 2) := by decide +kernel
theorem dX6_init_10 : decode cX6_init 10 = .ok (.putfield 9, 3) := by decide +kernel
theorem dX6_init_13 : decode cX6_init 13 = .ok (.aload_n 0, 1) := by decide +kernel
theorem dX6_init_14 : decode cX6_init 14 = .ok (.sipush 4096, 3) := by decide +kernel
theorem dX6_init_17 : decode cX6_init 17 = .ok (.newarray .int, 2) := by decide +kernel
theorem dX6_init_19 : decode cX6_init 19 = .ok (.putfield 15, 3) := by decide +kernel
theorem dX6_init_22 : decode cX6_init 22 = .ok (.aload_n 0, 1) := by decide +kernel
theorem dX6_init_23 : decode cX6_init 23 = .ok (.sipush 4096, 3) := by decide +kernel
theorem dX6_init_26 : decode cX6_init 26 = .ok (.newarray .int, 2) := by decide +kernel
theorem dX6_init_28 : decode cX6_init 28 = .ok (.putfield 18, 3) := by decide +kernel
theorem dX6_init_31 : decode cX6_init 31 = .ok (.return_, 1) := by decide +kernel
theorem dX6_explore_0 : decode cX6_explore 0 = .ok (.aload_n 0, 1) := by decide +kernel
theorem dX6_explore_1 : decode cX6_explore 1 = .ok (.getfield 9, 3) := by decide +kernel
theorem dX6_explore_4 : decode cX6_explore 4 = .ok (.iconst 0, 1) := by decide +kernel
theorem dX6_explore_5 : decode cX6_explore 5 = .ok (.invokestatic 21, 3) := by decide +kernel
theorem dX6_explore_8 : decode cX6_explore 8 = .ok (.aload_n 0, 1) := by decide +kernel
theorem dX6_explore_9 : decode cX6_explore 9 = .ok (.getfield 15, 3) := by decide +kernel
theorem dX6_explore_12 : decode cX6_explore 12 = .ok (.iconst 0, 1) := by decide +kernel
theorem dX6_explore_13 : decode cX6_explore 13 = .ok (.invokestatic 21, 3) := by decide +kernel
theorem dX6_explore_16 : decode cX6_explore 16 = .ok (.aload_n 0, 1) := by decide +kernel
theorem dX6_explore_17 : decode cX6_explore 17 = .ok (.iconst 0, 1) := by decide +kernel
theorem dX6_explore_18 : decode cX6_explore 18 = .ok (.putfield 27, 3) := by decide +kernel
theorem dX6_explore_21 : decode cX6_explore 21 = .ok (.aload_n 0, 1) := by decide +kernel
theorem dX6_explore_22 : decode cX6_explore 22 = .ok (.iconst 0, 1) := by decide +kernel
theorem dX6_explore_23 : decode cX6_explore 23 = .ok (.putfield 31, 3) := by decide +kernel
theorem dX6_explore_26 : decode cX6_explore 26 = .ok (.aload_n 0, 1) := by decide +kernel
theorem dX6_explore_27 : decode cX6_explore 27 = .ok (.aload_n 1, 1) := by decide +kernel
theorem dX6_explore_28 : decode cX6_explore 28 = .ok (.getfield 34, 3) := by decide +kernel
theorem dX6_explore_31 : decode cX6_explore 31 = .ok (.invokevirtual 39, 3) := by decide +kernel
theorem dX6_explore_34 : decode cX6_explore 34 = .ok (.iconst 0, 1) := by decide +kernel
theorem dX6_explore_35 : decode cX6_explore 35 = .ok (.istore_n 2, 1) := by decide +kernel
theorem dX6_explore_36 : decode cX6_explore 36 = .ok (.iload_n 2, 1) := by decide +kernel
theorem dX6_explore_37 : decode cX6_explore 37 = .ok (.bipush 8, 2) := by decide +kernel
theorem dX6_explore_39 : decode cX6_explore 39 = .ok (.if_icmp .ge 18, 3) := by decide +kernel
theorem dX6_explore_42 : decode cX6_explore 42 = .ok (.aload_n 0, 1) := by decide +kernel
theorem dX6_explore_43 : decode cX6_explore 43 = .ok (.aload_n 1, 1) := by decide +kernel
theorem dX6_explore_44 : decode cX6_explore 44 = .ok (.iload_n 2, 1) := by decide +kernel
theorem dX6_explore_45 : decode cX6_explore 45 = .ok (.invokevirtual 43, 3) := by decide +kernel
theorem dX6_explore_48 : decode cX6_explore 48 = .ok (.invokevirtual 39, 3) := by decide +kernel
theorem dX6_explore_51 : decode cX6_explore 51 = .ok (.iinc 2 1, 3) := by decide +kernel
theorem dX6_explore_54 : decode cX6_explore 54 = .ok (.goto (-18), 3) := by decide +kernel
theorem dX6_explore_57 : decode cX6_explore 57 = .ok (.iconst 0, 1) := by decide +kernel
theorem dX6_explore_58 : decode cX6_explore 58 = .ok (.istore_n 2, 1) := by decide +kernel
theorem dX6_explore_59 : decode cX6_explore 59 = .ok (.iload_n 2, 1) := by decide +kernel
theorem dX6_explore_60 : decode cX6_explore 60 = .ok (.sipush 4096, 3) := by decide +kernel
theorem dX6_explore_63 : decode cX6_explore 63 = .ok (.if_icmp .ge 42, 3) := by decide +kernel
theorem dX6_explore_66 : decode cX6_explore 66 = .ok (.aload_n 0, 1) := by decide +kernel
theorem dX6_explore_67 : decode cX6_explore 67 = .ok (.getfield 27, 3) := by decide +kernel
theorem dX6_explore_70 : decode cX6_explore 70 = .ok (.ifCond .le 35, 3) := by decide +kernel
theorem dX6_explore_73 : decode cX6_explore 73 = .ok (.aload_n 0, 1) := by decide +kernel
theorem dX6_explore_74 : decode cX6_explore 74 = .ok (.dup, 1) := by decide +kernel
theorem dX6_explore_75 : decode cX6_explore 75 = .ok (.getfield 27, 3) := by decide +kernel
theorem dX6_explore_78 : decode cX6_explore 78 = .ok (.iconst 1, 1) := by decide +kernel
theorem dX6_explore_79 : decode cX6_explore 79 = .ok (.isub, 1) := by decide +kernel
theorem dX6_explore_80 : decode cX6_explore 80 = .ok (.putfield 27, 3) := by decide +kernel
theorem dX6_explore_83 : decode cX6_explore 83 = .ok (.aload_n 0, 1) := by decide +kernel
theorem dX6_explore_84 : decode cX6_explore 84 = .ok (.aload_n 1, 1) := by decide +kernel
theorem dX6_explore_85 : decode cX6_explore 85 = .ok (.aload_n 0, 1) := by decide +kernel
theorem dX6_explore_86 : decode cX6_explore 86 = .ok (.getfield 18, 3) := by decide +kernel
theorem dX6_explore_89 : decode cX6_explore 89 = .ok (.aload_n 0, 1) := by decide +kernel
theorem dX6_explore_90 : decode cX6_explore 90 = .ok (.getfield 27, 3) := by decide +kernel
theorem dX6_explore_93 : decode cX6_explore 93 = .ok (.invokestatic 47, 3) := by decide +kernel
theorem dX6_explore_96 : decode cX6_explore 96 = .ok (.invokevirtual 51, 3) := by decide +kernel
theorem dX6_explore_99 : decode cX6_explore 99 = .ok (.iinc 2 1, 3) := by decide +kernel
theorem dX6_explore_102 : decode cX6_explore 102 = .ok (.goto (-43), 3) := by decide +kernel
theorem dX6_explore_105 : decode cX6_explore 105 = .ok (.return_, 1) := by decide +kernel
theorem dX6_comeTo_0 : decode cX6_comeTo 0 = .ok (.aload_n 0, 1) := by decide +kernel
theorem dX6_comeTo_1 : decode cX6_comeTo 1 = .ok (.getfield 9, 3) := by decide +kernel
theorem dX6_comeTo_4 : decode cX6_comeTo 4 = .ok (.iload_n 1, 1) := by decide +kernel
theorem dX6_comeTo_5 : decode cX6_comeTo 5 = .ok (.invokestatic 47, 3) := by decide +kernel
theorem dX6_comeTo_8 : decode cX6_comeTo 8 = .ok (.ifCond .eq 4, 3) := by decide +kernel
theorem dX6_comeTo_11 : decode cX6_comeTo 11 = .ok (.return_, 1) := by decide +kernel
theorem dX6_comeTo_12 : decode cX6_comeTo 12 = .ok (.aload_n 0, 1) := by decide +kernel
theorem dX6_comeTo_13 : decode cX6_comeTo 13 = .ok (.getfield 9, 3) := by decide +kernel
theorem dX6_comeTo_16 : decode cX6_comeTo 16 = .ok (.iload_n 1, 1) := by decide +kernel
theorem dX6_comeTo_17 : decode cX6_comeTo 17 = .ok (.iconst 1, 1) := by decide +kernel
theorem dX6_comeTo_18 : decode cX6_comeTo 18 = .ok (.invokestatic 55, 3) := by decide +kernel
theorem dX6_comeTo_21 : decode cX6_comeTo 21 = .ok (.aload_n 0, 1) := by decide +kernel
theorem dX6_comeTo_22 : decode cX6_comeTo 22 = .ok (.getfield 18, 3) := by decide +kernel
theorem dX6_comeTo_25 : decode cX6_comeTo 25 = .ok (.aload_n 0, 1) := by decide +kernel
theorem dX6_comeTo_26 : decode cX6_comeTo 26 = .ok (.getfield 27, 3) := by decide +kernel
theorem dX6_comeTo_29 : decode cX6_comeTo 29 = .ok (.iload_n 1, 1) := by decide +kernel
theorem dX6_comeTo_30 : decode cX6_comeTo 30 = .ok (.invokestatic 55, 3) := by decide +kernel
theorem dX6_comeTo_33 : decode cX6_comeTo 33 = .ok (.aload_n 0, 1) := by decide +kernel
theorem dX6_comeTo_34 : decode cX6_comeTo 34 = .ok (.dup, 1) := by decide +kernel
theorem dX6_comeTo_35 : decode cX6_comeTo 35 = .ok (.getfield 27, 3) := by decide +kernel
theorem dX6_comeTo_38 : decode cX6_comeTo 38 = .ok (.iconst 1, 1) := by decide +kernel
theorem dX6_comeTo_39 : decode cX6_comeTo 39 = .ok (.iadd, 1) := by decide +kernel
theorem dX6_comeTo_40 : decode cX6_comeTo 40 = .ok (.putfield 27, 3) := by decide +kernel
theorem dX6_comeTo_43 : decode cX6_comeTo 43 = .ok (.return_, 1) := by decide +kernel
theorem dX6_goFrom_0 : decode cX6_goFrom 0 = .ok (.aload_n 1, 1) := by decide +kernel
theorem dX6_goFrom_1 : decode cX6_goFrom 1 = .ok (.iload_n 2, 1) := by decide +kernel
theorem dX6_goFrom_2 : decode cX6_goFrom 2 = .ok (.invokevirtual 59, 3) := by decide +kernel
theorem dX6_goFrom_5 : decode cX6_goFrom 5 = .ok (.istore_n 3, 1) := by decide +kernel
theorem dX6_goFrom_6 : decode cX6_goFrom 6 = .ok (.iload_n 3, 1) := by decide +kernel
theorem dX6_goFrom_7 : decode cX6_goFrom 7 = .ok (.invokestatic 62, 3) := by decide +kernel
theorem dX6_goFrom_10 : decode cX6_goFrom 10 = .ok (.istore 4, 2) := by decide +kernel
theorem dX6_goFrom_12 : decode cX6_goFrom 12 = .ok (.iload 4, 2) := by decide +kernel
theorem dX6_goFrom_14 : decode cX6_goFrom 14 = .ok (.ifCond .ne 4, 3) := by decide +kernel
theorem dX6_goFrom_17 : decode cX6_goFrom 17 = .ok (.return_, 1) := by decide +kernel
theorem dX6_goFrom_18 : decode cX6_goFrom 18 = .ok (.aload_n 0, 1) := by decide +kernel
theorem dX6_goFrom_19 : decode cX6_goFrom 19 = .ok (.getfield 15, 3) := by decide +kernel
theorem dX6_goFrom_22 : decode cX6_goFrom 22 = .ok (.iload_n 2, 1) := by decide +kernel
theorem dX6_goFrom_23 : decode cX6_goFrom 23 = .ok (.iconst 1, 1) := by decide +kernel
theorem dX6_goFrom_24 : decode cX6_goFrom 24 = .ok (.invokestatic 55, 3) := by decide +kernel
theorem dX6_goFrom_27 : decode cX6_goFrom 27 = .ok (.aload_n 0, 1) := by decide +kernel
theorem dX6_goFrom_28 : decode cX6_goFrom 28 = .ok (.dup, 1) := by decide +kernel
theorem dX6_goFrom_29 : decode cX6_goFrom 29 = .ok (.getfield 31, 3) := by decide +kernel
theorem dX6_goFrom_32 : decode cX6_goFrom 32 = .ok (.iconst 1, 1) := by decide +kernel
theorem dX6_goFrom_33 : decode cX6_goFrom 33 = .ok (.iadd, 1) := by decide +kernel
theorem dX6_goFrom_34 : decode cX6_goFrom 34 = .ok (.putfield 31, 3) := by decide +kernel
theorem dX6_goFrom_37 : decode cX6_goFrom 37 = .ok (.iload_n 3, 1) := by decide +kernel
theorem dX6_goFrom_38 : decode cX6_goFrom 38 = .ok (.iconst 3, 1) := by decide +kernel
theorem dX6_goFrom_39 : decode cX6_goFrom 39 = .ok (.ishr, 1) := by decide +kernel
theorem dX6_goFrom_40 : decode cX6_goFrom 40 = .ok (.istore 5, 2) := by decide +kernel
theorem dX6_goFrom_42 : decode cX6_goFrom 42 = .ok (.iload_n 3, 1) := by decide +kernel
theorem dX6_goFrom_43 : decode cX6_goFrom 43 = .ok (.iconst 1, 1) := by decide +kernel
theorem dX6_goFrom_44 : decode cX6_goFrom 44 = .ok (.if_icmp .eq 27, 3) := by decide +kernel
theorem dX6_goFrom_47 : decode cX6_goFrom 47 = .ok (.iload_n 3, 1) := by decide +kernel
theorem dX6_goFrom_48 : decode cX6_goFrom 48 = .ok (.iconst 3, 1) := by decide +kernel
theorem dX6_goFrom_49 : decode cX6_goFrom 49 = .ok (.if_icmp .eq 22, 3) := by decide +kernel
theorem dX6_goFrom_52 : decode cX6_goFrom 52 = .ok (.iload_n 3, 1) := by decide +kernel
theorem dX6_goFrom_53 : decode cX6_goFrom 53 = .ok (.iconst 4, 1) := by decide +kernel
theorem dX6_goFrom_54 : decode cX6_goFrom 54 = .ok (.if_icmp .eq 17, 3) := by decide +kernel
theorem dX6_goFrom_57 : decode cX6_goFrom 57 = .ok (.iload_n 3, 1) := by decide +kernel
theorem dX6_goFrom_58 : decode cX6_goFrom 58 = .ok (.sipush 216, 3) := by decide +kernel
theorem dX6_goFrom_61 : decode cX6_goFrom 61 = .ok (.if_icmp .eq 10, 3) := by decide +kernel
theorem dX6_goFrom_64 : decode cX6_goFrom 64 = .ok (.iload 5, 2) := by decide +kernel
theorem dX6_goFrom_66 : decode cX6_goFrom 66 = .ok (.bipush 24, 2) := by decide +kernel
theorem dX6_goFrom_68 : decode cX6_goFrom 68 = .ok (.if_icmp .ne 7, 3) := by decide +kernel
theorem dX6_goFrom_71 : decode cX6_goFrom 71 = .ok (.iconst 1, 1) := by decide +kernel
theorem dX6_goFrom_72 : decode cX6_goFrom 72 = .ok (.goto 4, 3) := by decide +kernel
theorem dX6_goFrom_75 : decode cX6_goFrom 75 = .ok (.iconst 0, 1) := by decide +kernel
theorem dX6_goFrom_76 : decode cX6_goFrom 76 = .ok (.istore 6, 2) := by decide +kernel
theorem dX6_goFrom_78 : decode cX6_goFrom 78 = .ok (.iload 6, 2) := by decide +kernel
theorem dX6_goFrom_80 : decode cX6_goFrom 80 = .ok (.ifCond .ne 15, 3) := by decide +kernel
theorem dX6_goFrom_83 : decode cX6_goFrom 83 = .ok (.aload_n 0, 1) := by decide +kernel
theorem dX6_goFrom_84 : decode cX6_goFrom 84 = .ok (.iload_n 2, 1) := by decide +kernel
theorem dX6_goFrom_85 : decode cX6_goFrom 85 = .ok (.iload 4, 2) := by decide +kernel
theorem dX6_goFrom_87 : decode cX6_goFrom 87 = .ok (.iadd, 1) := by decide +kernel
theorem dX6_goFrom_88 : decode cX6_goFrom 88 = .ok (.sipush 4095, 3) := by decide +kernel
theorem dX6_goFrom_91 : decode cX6_goFrom 91 = .ok (.iand, 1) := by decide +kernel
theorem dX6_goFrom_92 : decode cX6_goFrom 92 = .ok (.invokevirtual 39, 3) := by decide +kernel
theorem dX6_goFrom_95 : decode cX6_goFrom 95 = .ok (.iload 5, 2) := by decide +kernel
theorem dX6_goFrom_97 : decode cX6_goFrom 97 = .ok (.bipush 24, 2) := by decide +kernel
theorem dX6_goFrom_99 : decode cX6_goFrom 99 = .ok (.if_icmp .eq 10, 3) := by decide +kernel
theorem dX6_goFrom_102 : decode cX6_goFrom 102 = .ok (.iload 5, 2) := by decide +kernel
theorem dX6_goFrom_104 : decode cX6_goFrom 104 = .ok (.bipush 25, 2) := by decide +kernel
theorem dX6_goFrom_106 : decode cX6_goFrom 106 = .ok (.if_icmp .ne 15, 3) := by decide +kernel
theorem dX6_goFrom_109 : decode cX6_goFrom 109 = .ok (.iload_n 3, 1) := by decide +kernel
theorem dX6_goFrom_110 : decode cX6_goFrom 110 = .ok (.bipush 7, 2) := by decide +kernel
theorem dX6_goFrom_112 : decode cX6_goFrom 112 = .ok (.iand, 1) := by decide +kernel
theorem dX6_goFrom_113 : decode cX6_goFrom 113 = .ok (.iconst 3, 1) := by decide +kernel
theorem dX6_goFrom_114 : decode cX6_goFrom 114 = .ok (.if_icmp .ne 7, 3) := by decide +kernel
theorem dX6_goFrom_117 : decode cX6_goFrom 117 = .ok (.iconst 1, 1) := by decide +kernel
theorem dX6_goFrom_118 : decode cX6_goFrom 118 = .ok (.goto 4, 3) := by decide +kernel
theorem dX6_goFrom_121 : decode cX6_goFrom 121 = .ok (.iconst 0, 1) := by decide +kernel
theorem dX6_goFrom_122 : decode cX6_goFrom 122 = .ok (.istore 7, 2) := by decide +kernel
theorem dX6_goFrom_124 : decode cX6_goFrom 124 = .ok (.iload 7, 2) := by decide +kernel
theorem dX6_goFrom_126 : decode cX6_goFrom 126 = .ok (.ifCond .ne 10, 3) := by decide +kernel
theorem dX6_goFrom_129 : decode cX6_goFrom 129 = .ok (.iload_n 3, 1) := by decide +kernel
theorem dX6_goFrom_130 : decode cX6_goFrom 130 = .ok (.sipush 208, 3) := by decide +kernel
theorem dX6_goFrom_133 : decode cX6_goFrom 133 = .ok (.if_icmp .lt 16, 3) := by decide +kernel
theorem dX6_goFrom_136 : decode cX6_goFrom 136 = .ok (.aload_n 0, 1) := by decide +kernel
theorem dX6_goFrom_137 : decode cX6_goFrom 137 = .ok (.aload_n 1, 1) := by decide +kernel
theorem dX6_goFrom_138 : decode cX6_goFrom 138 = .ok (.iload_n 2, 1) := by decide +kernel
theorem dX6_goFrom_139 : decode cX6_goFrom 139 = .ok (.invokevirtual 65, 3) := by decide +kernel
theorem dX6_goFrom_142 : decode cX6_goFrom 142 = .ok (.sipush 4095, 3) := by decide +kernel
theorem dX6_goFrom_145 : decode cX6_goFrom 145 = .ok (.iand, 1) := by decide +kernel
theorem dX6_goFrom_146 : decode cX6_goFrom 146 = .ok (.invokevirtual 39, 3) := by decide +kernel
theorem dX6_goFrom_149 : decode cX6_goFrom 149 = .ok (.iload_n 3, 1) := by decide +kernel
theorem dX6_goFrom_150 : decode cX6_goFrom 150 = .ok (.iconst 5, 1) := by decide +kernel
theorem dX6_goFrom_151 : decode cX6_goFrom 151 = .ok (.if_icmp .ne 13, 3) := by decide +kernel
theorem dX6_goFrom_154 : decode cX6_goFrom 154 = .ok (.aload_n 0, 1) := by decide +kernel
theorem dX6_goFrom_155 : decode cX6_goFrom 155 = .ok (.aload_n 1, 1) := by decide +kernel
theorem dX6_goFrom_156 : decode cX6_goFrom 156 = .ok (.bipush 6, 2) := by decide +kernel
theorem dX6_goFrom_158 : decode cX6_goFrom 158 = .ok (.invokevirtual 43, 3) := by decide +kernel
theorem dX6_goFrom_161 : decode cX6_goFrom 161 = .ok (.invokevirtual 39, 3) := by decide +kernel
theorem dX6_goFrom_164 : decode cX6_goFrom 164 = .ok (.return_, 1) := by decide +kernel
theorem dX7_init_0 : decode cX7_init 0 = .ok (.aload_n 0, 1) := by decide +kernel
theorem dX7_init_1 : decode cX7_init 1 = .ok (.invokespecial 3, 3) := by decide +kernel
theorem dX7_init_4 : decode cX7_init 4 = .ok (.aload_n 0, 1) := by decide +kernel
theorem dX7_init_5 : decode cX7_init 5 = .ok (.bipush 6, 2) := by decide +kernel
theorem dX7_init_7 : decode cX7_init 7 = .ok (.newarray .int, 2) := by decide +kernel
theorem dX7_init_9 : decode cX7_init 9 = .ok (.putfield 11, 3) := by decide +kernel
theorem dX7_init_12 : decode cX7_init 12 = .ok (.aload_n 0, 1) := by decide +kernel
theorem dX7_init_13 : decode cX7_init 13 = .ok (.bipush 6, 2) := by decide +kernel
theorem dX7_init_15 : decode cX7_init 15 = .ok (.newarray .int, 2) := by decide +kernel
theorem dX7_init_17 : decode cX7_init 17 = .ok (.putfield 15, 3) := by decide +kernel
theorem dX7_init_20 : decode cX7_init 20 = .ok (.aload_n 0, 1) := by decide +kernel
theorem dX7_init_21 : decode cX7_init 21 = .ok (.iconst 4, 1) := by decide +kernel
theorem dX7_init_22 : decode cX7_init 22 = .ok (.newarray .int, 2) := by decide +kernel
theorem dX7_init_24 : decode cX7_init 24 = .ok (.putfield 18, 3) := by decide +kernel
theorem dX7_init_27 : decode cX7_init 27 = .ok (.aload_n 0, 1) := by decide +kernel
theorem dX7_init_28 : decode cX7_init 28 = .ok (.iconst 4, 1) := by decide +kernel
theorem dX7_init_29 : decode cX7_init 29 = .ok (.newarray .int, 2) := by decide +kernel
theorem dX7_init_31 : decode cX7_init 31 = .ok (.putfield 21, 3) := by decide +kernel
theorem dX7_init_34 : decode cX7_init 34 = .ok (.aload_n 0, 1) := by decide +kernel
theorem dX7_init_35 : decode cX7_init 35 = .ok (.iconst 4, 1) := by decide +kernel
theorem dX7_init_36 : decode cX7_init 36 = .ok (.newarray .int, 2) := by decide +kernel
theorem dX7_init_38 : decode cX7_init 38 = .ok (.putfield 24, 3) := by decide +kernel
theorem dX7_init_41 : decode cX7_init 41 = .ok (.return_, 1) := by decide +kernel
theorem dX7_forget_0 : decode cX7_forget 0 = .ok (.aload_n 0, 1) := by decide +kernel
theorem dX7_forget_1 : decode cX7_forget 1 = .ok (.iconst 0, 1) := by decide +kernel
theorem dX7_forget_2 : decode cX7_forget 2 = .ok (.putfield 27, 3) := by decide +kernel
theorem dX7_forget_5 : decode cX7_forget 5 = .ok (.aload_n 0, 1) := by decide +kernel
theorem dX7_forget_6 : decode cX7_forget 6 = .ok (.iconst 0, 1) := by decide +kernel
theorem dX7_forget_7 : decode cX7_forget 7 = .ok (.putfield 31, 3) := by decide +kernel
theorem dX7_forget_10 : decode cX7_forget 10 = .ok (.aload_n 0, 1) := by decide +kernel
theorem dX7_forget_11 : decode cX7_forget 11 = .ok (.iconst 0, 1) := by decide +kernel
theorem dX7_forget_12 : decode cX7_forget 12 = .ok (.putfield 34, 3) := by decide +kernel
theorem dX7_forget_15 : decode cX7_forget 15 = .ok (.return_, 1) := by decide +kernel
theorem dX7_breakIndex_0 : decode cX7_breakIndex 0 = .ok (.iconst 0, 1) := by decide +kernel
theorem dX7_breakIndex_1 : decode cX7_breakIndex 1 = .ok (.istore_n 2, 1) := by decide +kernel
theorem dX7_breakIndex_2 : decode cX7_breakIndex 2 = .ok (.iload_n 2, 1) := by decide +kernel
theorem dX7_breakIndex_3 : decode cX7_breakIndex 3 = .ok (.aload_n 0, 1) := by decide +kernel
theorem dX7_breakIndex_4 : decode cX7_breakIndex 4 = .ok (.getfield 27, 3) := by decide +kernel
theorem dX7_breakIndex_7 : decode cX7_breakIndex 7 = .ok (.if_icmp .ge 23, 3) := by decide +kernel
theorem dX7_breakIndex_10 : decode cX7_breakIndex 10 = .ok (.aload_n 0, 1) := by decide +kernel
theorem dX7_breakIndex_11 : decode cX7_breakIndex 11 = .ok (.getfield 11, 3) := by decide +kernel
theorem dX7_breakIndex_14 : decode cX7_breakIndex 14 = .ok (.iload_n 2, 1) := by decide +kernel
theorem dX7_breakIndex_15 : decode cX7_breakIndex 15 = .ok (.invokestatic 37, 3) := by decide +kernel
theorem dX7_breakIndex_18 : decode cX7_breakIndex 18 = .ok (.iload_n 1, 1) := by decide +kernel
theorem dX7_breakIndex_19 : decode cX7_breakIndex 19 = .ok (.if_icmp .ne 5, 3) := by decide +kernel
theorem dX7_breakIndex_22 : decode cX7_breakIndex 22 = .ok (.iload_n 2, 1) := by decide +kernel
theorem dX7_breakIndex_23 : decode cX7_breakIndex 23 = .ok (.ireturn, 1) := by decide +kernel
theorem dX7_breakIndex_24 : decode cX7_breakIndex 24 = .ok (.iinc 2 1, 3) := by decide +kernel
theorem dX7_breakIndex_27 : decode cX7_breakIndex 27 = .ok (.goto (-25), 3) := by decide +kernel
theorem dX7_breakIndex_30 : decode cX7_breakIndex 30 = .ok (.iconst (-1), 1) := by decide +kernel
theorem dX7_breakIndex_31 : decode cX7_breakIndex 31 = .ok (.ireturn, 1) := by decide +kernel
theorem dX7_addBreak_0 : decode cX7_addBreak 0 = .ok (.aload_n 0, 1) := by decide +kernel
theorem dX7_addBreak_1 : decode cX7_addBreak 1 = .ok (.iload_n 1, 1) := by decide +kernel
theorem dX7_addBreak_2 : decode cX7_addBreak 2 = .ok (.invokevirtual 41, 3) := by decide +kernel
theorem dX7_addBreak_5 : decode cX7_addBreak 5 = .ok (.istore_n 3, 1) := by decide +kernel
theorem dX7_addBreak_6 : decode cX7_addBreak 6 = .ok (.iload_n 3, 1) := by decide +kernel
theorem dX7_addBreak_7 : decode cX7_addBreak 7 = .ok (.ifCond .ge 15, 3) := by decide +kernel
theorem dX7_addBreak_10 : decode cX7_addBreak 10 = .ok (.aload_n 0, 1) := by decide +kernel
theorem dX7_addBreak_11 : decode cX7_addBreak 11 = .ok (.dup, 1) := by decide +kernel
theorem dX7_addBreak_12 : decode cX7_addBreak 12 = .ok (.getfield 27, 3) := by decide +kernel
theorem dX7_addBreak_15 : decode cX7_addBreak 15 = .ok (.dup_x1, 1) := by decide +kernel
theorem dX7_addBreak_16 : decode cX7_addBreak 16 = .ok (.iconst 1, 1) := by decide +kernel
theorem dX7_addBreak_17 : decode cX7_addBreak 17 = .ok (.iadd, 1) := by decide +kernel
theorem dX7_addBreak_18 : decode cX7_addBreak 18 = .ok (.putfield 27, 3) := by decide +kernel
theorem dX7_addBreak_21 : decode cX7_addBreak 21 = .ok (.istore_n 3, 1) := by decide +kernel
theorem dX7_addBreak_22 : decode cX7_addBreak 22 = .ok (.aload_n 0, 1) := by decide +kernel
theorem dX7_addBreak_23 : decode cX7_addBreak 23 = .ok (.getfield 11, 3) := by decide +kernel
theorem dX7_addBreak_26 : decode cX7_addBreak 26 = .ok (.iload_n 3, 1) := by decide +kernel
theorem dX7_addBreak_27 : decode cX7_addBreak 27 = .ok (.iload_n 1, 1) := by decide +kernel
theorem dX7_addBreak_28 : decode cX7_addBreak 28 = .ok (.invokestatic 45, 3) := by decide +kernel
theorem dX7_addBreak_31 : decode cX7_addBreak 31 = .ok (.aload_n 0, 1) := by decide +kernel
theorem dX7_addBreak_32 : decode cX7_addBreak 32 = .ok (.getfield 15, 3) := by decide +kernel
theorem dX7_addBreak_35 : decode cX7_addBreak 35 = .ok (.iload_n 3, 1) := by decide +kernel
theorem dX7_addBreak_36 : decode cX7_addBreak 36 = .ok (.iload_n 2, 1) := by decide +kernel
theorem dX7_addBreak_37 : decode cX7_addBreak 37 = .ok (.invokestatic 45, 3) := by decide +kernel
theorem dX7_addBreak_40 : decode cX7_addBreak 40 = .ok (.return_, 1) := by decide +kernel
theorem dX7_dropBreak_0 : decode cX7_dropBreak 0 = .ok (.aload_n 0, 1) := by decide +kernel
theorem dX7_dropBreak_1 : decode cX7_dropBreak 1 = .ok (.iload_n 1, 1) := by decide +kernel
theorem dX7_dropBreak_2 : decode cX7_dropBreak 2 = .ok (.invokevirtual 41, 3) := by decide +kernel
theorem dX7_dropBreak_5 : decode cX7_dropBreak 5 = .ok (.istore_n 2, 1) := by decide +kernel
theorem dX7_dropBreak_6 : decode cX7_dropBreak 6 = .ok (.iload_n 2, 1) := by decide +kernel
theorem dX7_dropBreak_7 : decode cX7_dropBreak 7 = .ok (.ifCond .ge 5, 3) := by decide +kernel
theorem dX7_dropBreak_10 : decode cX7_dropBreak 10 = .ok (.iconst (-1), 1) := by decide +kernel
theorem dX7_dropBreak_11 : decode cX7_dropBreak 11 = .ok (.ireturn, 1) := by decide +kernel
theorem dX7_dropBreak_12 : decode cX7_dropBreak 12 = .ok (.aload_n 0, 1) := by decide +kernel
theorem dX7_dropBreak_13 : decode cX7_dropBreak 13 = .ok (.getfield 15, 3) := by decide +kernel
theorem dX7_dropBreak_16 : decode cX7_dropBreak 16 = .ok (.iload_n 2, 1) := by decide +kernel
theorem dX7_dropBreak_17 : decode cX7_dropBreak 17 = .ok (.invokestatic 37, 3) := by decide +kernel
theorem dX7_dropBreak_20 : decode cX7_dropBreak 20 = .ok (.istore_n 3, 1) := by decide +kernel
theorem dX7_dropBreak_21 : decode cX7_dropBreak 21 = .ok (.aload_n 0, 1) := by decide +kernel
theorem dX7_dropBreak_22 : decode cX7_dropBreak 22 = .ok (.dup, 1) := by decide +kernel
theorem dX7_dropBreak_23 : decode cX7_dropBreak 23 = .ok (.getfield 27, 3) := by decide +kernel
theorem dX7_dropBreak_26 : decode cX7_dropBreak 26 = .ok (.iconst 1, 1) := by decide +kernel
theorem dX7_dropBreak_27 : decode cX7_dropBreak 27 = .ok (.isub, 1) := by decide +kernel
theorem dX7_dropBreak_28 : decode cX7_dropBreak 28 = .ok (.putfield 27, 3) := by decide +kernel
theorem dX7_dropBreak_31 : decode cX7_dropBreak 31 = .ok (.aload_n 0, 1) := by decide +kernel
theorem dX7_dropBreak_32 : decode cX7_dropBreak 32 = .ok (.getfield 11, 3) := by decide +kernel
theorem dX7_dropBreak_35 : decode cX7_dropBreak 35 = .ok (.iload_n 2, 1) := by decide +kernel
theorem dX7_dropBreak_36 : decode cX7_dropBreak 36 = .ok (.aload_n 0, 1) := by decide +kernel
theorem dX7_dropBreak_37 : decode cX7_dropBreak 37 = .ok (.getfield 11, 3) := by decide +kernel
theorem dX7_dropBreak_40 : decode cX7_dropBreak 40 = .ok (.aload_n 0, 1) := by decide +kernel
theorem dX7_dropBreak_41 : decode cX7_dropBreak 41 = .ok (.getfield 27, 3) := by decide +kernel
theorem dX7_dropBreak_44 : decode cX7_dropBreak 44 = .ok (.invokestatic 37, 3) := by decide +kernel
theorem dX7_dropBreak_47 : decode cX7_dropBreak 47 = .ok (.invokestatic 45, 3) := by decide +kernel
theorem dX7_dropBreak_50 : decode cX7_dropBreak 50 = .ok (.aload_n 0, 1) := by decide +kernel
theorem dX7_dropBreak_51 : decode cX7_dropBreak 51 = .ok (.getfield 15, 3) := by decide +kernel
theorem dX7_dropBreak_54 : decode cX7_dropBreak 54 = .ok (.iload_n 2, 1) := by decide +kernel
theorem dX7_dropBreak_55 : decode cX7_dropBreak 55 = .ok (.aload_n 0, 1) := by decide +kernel
theorem dX7_dropBreak_56 : decode cX7_dropBreak 56 = .ok (.getfield 15, 3) := by decide +kernel
theorem dX7_dropBreak_59 : decode cX7_dropBreak 59 = .ok (.aload_n 0, 1) := by decide +kernel
theorem dX7_dropBreak_60 : decode cX7_dropBreak 60 = .ok (.getfield 27, 3) := by decide +kernel
theorem dX7_dropBreak_63 : decode cX7_dropBreak 63 = .ok (.invokestatic 37, 3) := by decide +kernel
theorem dX7_dropBreak_66 : decode cX7_dropBreak 66 = .ok (.invokestatic 45, 3) := by decide +kernel
theorem dX7_dropBreak_69 : decode cX7_dropBreak 69 = .ok (.iload_n 3, 1) := by decide +kernel
theorem dX7_dropBreak_70 : decode cX7_dropBreak 70 = .ok (.ireturn, 1) := by decide +kernel
theorem dX7_breaksAt_0 : decode cX7_breaksAt 0 = .ok (.aload_n 0, 1) := by decide +kernel
theorem dX7_breaksAt_1 : decode cX7_breaksAt 1 = .ok (.iload_n 1, 1) := by decide +kernel
theorem dX7_breaksAt_2 : decode cX7_breaksAt 2 = .ok (.invokevirtual 41, 3) := by decide +kernel
theorem dX7_breaksAt_5 : decode cX7_breaksAt 5 = .ok (.istore_n 2, 1) := by decide +kernel
theorem dX7_breaksAt_6 : decode cX7_breaksAt 6 = .ok (.iload_n 2, 1) := by decide +kernel
theorem dX7_breaksAt_7 : decode cX7_breaksAt 7 = .ok (.ifCond .ge 5, 3) := by decide +kernel
theorem dX7_breaksAt_10 : decode cX7_breaksAt 10 = .ok (.iconst 0, 1) := by decide +kernel
theorem dX7_breaksAt_11 : decode cX7_breaksAt 11 = .ok (.ireturn, 1) := by decide +kernel
theorem dX7_breaksAt_12 : decode cX7_breaksAt 12 = .ok (.aload_n 0, 1) := by decide +kernel
theorem dX7_breaksAt_13 : decode cX7_breaksAt 13 = .ok (.getfield 15, 3) := by decide +kernel
theorem dX7_breaksAt_16 : decode cX7_breaksAt 16 = .ok (.iload_n 2, 1) := by decide +kernel
theorem dX7_breaksAt_17 : decode cX7_breaksAt 17 = .ok (.invokestatic 37, 3) := by decide +kernel
theorem dX7_breaksAt_20 : decode cX7_breaksAt 20 = .ok (.istore_n 3, 1) := by decide +kernel
theorem dX7_breaksAt_21 : decode cX7_breaksAt 21 = .ok (.iload_n 3, 1) := by decide +kernel
theorem dX7_breaksAt_22 : decode cX7_breaksAt 22 = .ok (.ifCond .le 14, 3) := by decide +kernel
theorem dX7_breaksAt_25 : decode cX7_breaksAt 25 = .ok (.aload_n 0, 1) := by decide +kernel
theorem dX7_breaksAt_26 : decode cX7_breaksAt 26 = .ok (.getfield 15, 3) := by decide +kernel
theorem dX7_breaksAt_29 : decode cX7_breaksAt 29 = .ok (.iload_n 2, 1) := by decide +kernel
theorem dX7_breaksAt_30 : decode cX7_breaksAt 30 = .ok (.iload_n 3, 1) := by decide +kernel
theorem dX7_breaksAt_31 : decode cX7_breaksAt 31 = .ok (.iconst 1, 1) := by decide +kernel
theorem dX7_breaksAt_32 : decode cX7_breaksAt 32 = .ok (.isub, 1) := by decide +kernel
theorem dX7_breaksAt_33 : decode cX7_breaksAt 33 = .ok (.invokestatic 45, 3) := by decide +kernel
theorem dX7_breaksAt_36 : decode cX7_breaksAt 36 = .ok (.iload_n 3, 1) := by decide +kernel
theorem dX7_breaksAt_37 : decode cX7_breaksAt 37 = .ok (.ifCond .ne 7, 3) := by decide +kernel
theorem dX7_breaksAt_40 : decode cX7_breaksAt 40 = .ok (.iconst 1, 1) := by decide +kernel
theorem dX7_breaksAt_41 : decode cX7_breaksAt 41 = .ok (.goto 4, 3) := by decide +kernel
theorem dX7_breaksAt_44 : decode cX7_breaksAt 44 = .ok (.iconst 0, 1) := by decide +kernel
theorem dX7_breaksAt_45 : decode cX7_breaksAt 45 = .ok (.ireturn, 1) := by decide +kernel
theorem dX7_addWatch_0 : decode cX7_addWatch 0 = .ok (.aload_n 0, 1) := by decide +kernel
theorem dX7_addWatch_1 : decode cX7_addWatch 1 = .ok (.getfield 18, 3) := by decide +kernel
theorem dX7_addWatch_4 : decode cX7_addWatch 4 = .ok (.aload_n 0, 1) := by decide +kernel
theorem dX7_addWatch_5 : decode cX7_addWatch 5 = .ok (.getfield 31, 3) := by decide +kernel
theorem dX7_addWatch_8 : decode cX7_addWatch 8 = .ok (.iload_n 1, 1) := by decide +kernel
theorem dX7_addWatch_9 : decode cX7_addWatch 9 = .ok (.invokestatic 45, 3) := by decide +kernel
theorem dX7_addWatch_12 : decode cX7_addWatch 12 = .ok (.aload_n 0, 1) := by decide +kernel
theorem dX7_addWatch_13 : decode cX7_addWatch 13 = .ok (.getfield 21, 3) := by decide +kernel
theorem dX7_addWatch_16 : decode cX7_addWatch 16 = .ok (.aload_n 0, 1) := by decide +kernel
theorem dX7_addWatch_17 : decode cX7_addWatch 17 = .ok (.getfield 31, 3) := by decide +kernel
theorem dX7_addWatch_20 : decode cX7_addWatch 20 = .ok (.iload_n 2, 1) := by decide +kernel
theorem dX7_addWatch_21 : decode cX7_addWatch 21 = .ok (.invokestatic 45, 3) := by decide +kernel
theorem dX7_addWatch_24 : decode cX7_addWatch 24 = .ok (.aload_n 0, 1) := by decide +kernel
theorem dX7_addWatch_25 : decode cX7_addWatch 25 = .ok (.getfield 24, 3) := by decide +kernel
theorem dX7_addWatch_28 : decode cX7_addWatch 28 = .ok (.aload_n 0, 1) := by decide +kernel
theorem dX7_addWatch_29 : decode cX7_addWatch 29 = .ok (.getfield 31, 3) := by decide +kernel
theorem dX7_addWatch_32 : decode cX7_addWatch 32 = .ok (.iload_n 3, 1) := by decide +kernel
theorem dX7_addWatch_33 : decode cX7_addWatch 33 = .ok (.ifCond .eq 7, 3) := by decide +kernel
theorem dX7_addWatch_36 : decode cX7_addWatch 36 = .ok (.iconst 1, 1) := by decide +kernel
theorem dX7_addWatch_37 : decode cX7_addWatch 37 = .ok (.goto 4, 3) := by decide +kernel
theorem dX7_addWatch_40 : decode cX7_addWatch 40 = .ok (.iconst 0, 1) := by decide +kernel
theorem dX7_addWatch_41 : decode cX7_addWatch 41 = .ok (.iload 4, 2) := by decide +kernel
theorem dX7_addWatch_43 : decode cX7_addWatch 43 = .ok (.ifCond .eq 7, 3) := by decide +kernel
theorem dX7_addWatch_46 : decode cX7_addWatch 46 = .ok (.iconst 2, 1) := by decide +kernel
theorem dX7_addWatch_47 : decode cX7_addWatch 47 = .ok (.goto 4, 3) := by decide +kernel
theorem dX7_addWatch_50 : decode cX7_addWatch 50 = .ok (.iconst 0, 1) := by decide +kernel
theorem dX7_addWatch_51 : decode cX7_addWatch 51 = .ok (.iadd, 1) := by decide +kernel
theorem dX7_addWatch_52 : decode cX7_addWatch 52 = .ok (.invokestatic 45, 3) := by decide +kernel
theorem dX7_addWatch_55 : decode cX7_addWatch 55 = .ok (.aload_n 0, 1) := by decide +kernel
theorem dX7_addWatch_56 : decode cX7_addWatch 56 = .ok (.dup, 1) := by decide +kernel
theorem dX7_addWatch_57 : decode cX7_addWatch 57 = .ok (.getfield 31, 3) := by decide +kernel
theorem dX7_addWatch_60 : decode cX7_addWatch 60 = .ok (.iconst 1, 1) := by decide +kernel
theorem dX7_addWatch_61 : decode cX7_addWatch 61 = .ok (.iadd, 1) := by decide +kernel
theorem dX7_addWatch_62 : decode cX7_addWatch 62 = .ok (.putfield 31, 3) := by decide +kernel
theorem dX7_addWatch_65 : decode cX7_addWatch 65 = .ok (.return_, 1) := by decide +kernel
theorem dX7_isHit_0 : decode cX7_isHit 0 = .ok (.iconst 0, 1) := by decide +kernel
theorem dX7_isHit_1 : decode cX7_isHit 1 = .ok (.istore_n 2, 1) := by decide +kernel
theorem dX7_isHit_2 : decode cX7_isHit 2 = .ok (.iload_n 2, 1) := by decide +kernel
theorem dX7_isHit_3 : decode cX7_isHit 3 = .ok (.aload_n 1, 1) := by decide +kernel
theorem dX7_isHit_4 : decode cX7_isHit 4 = .ok (.getfield 49, 3) := by decide +kernel
theorem dX7_isHit_7 : decode cX7_isHit 7 = .ok (.if_icmp .ge 48, 3) := by decide +kernel
theorem dX7_isHit_10 : decode cX7_isHit 10 = .ok (.aload_n 1, 1) := by decide +kernel
theorem dX7_isHit_11 : decode cX7_isHit 11 = .ok (.getfield 54, 3) := by decide +kernel
theorem dX7_isHit_14 : decode cX7_isHit 14 = .ok (.iload_n 2, 1) := by decide +kernel
theorem dX7_isHit_15 : decode cX7_isHit 15 = .ok (.invokestatic 37, 3) := by decide +kernel
theorem dX7_isHit_18 : decode cX7_isHit 18 = .ok (.istore_n 3, 1) := by decide +kernel
theorem dX7_isHit_19 : decode cX7_isHit 19 = .ok (.iload_n 3, 1) := by decide +kernel
theorem dX7_isHit_20 : decode cX7_isHit 20 = .ok (.sipush 4096, 3) := by decide +kernel
theorem dX7_isHit_23 : decode cX7_isHit 23 = .ok (.if_icmp .ge 7, 3) := by decide +kernel
theorem dX7_isHit_26 : decode cX7_isHit 26 = .ok (.iconst 1, 1) := by decide +kernel
theorem dX7_isHit_27 : decode cX7_isHit 27 = .ok (.goto 4, 3) := by decide +kernel
theorem dX7_isHit_30 : decode cX7_isHit 30 = .ok (.iconst 2, 1) := by decide +kernel
theorem dX7_isHit_31 : decode cX7_isHit 31 = .ok (.istore 4, 2) := by decide +kernel
theorem dX7_isHit_33 : decode cX7_isHit 33 = .ok (.aload_n 0, 1) := by decide +kernel
theorem dX7_isHit_34 : decode cX7_isHit 34 = .ok (.iload_n 3, 1) := by decide +kernel
theorem dX7_isHit_35 : decode cX7_isHit 35 = .ok (.sipush 4095, 3) := by decide +kernel
theorem dX7_isHit_38 : decode cX7_isHit 38 = .ok (.iand, 1) := by decide +kernel
theorem dX7_isHit_39 : decode cX7_isHit 39 = .ok (.iload 4, 2) := by decide +kernel
theorem dX7_isHit_41 : decode cX7_isHit 41 = .ok (.invokevirtual 57, 3) := by decide +kernel
theorem dX7_isHit_44 : decode cX7_isHit 44 = .ok (.ifCond .eq 5, 3) := by decide +kernel
theorem dX7_isHit_47 : decode cX7_isHit 47 = .ok (.iconst 1, 1) := by decide +kernel
theorem dX7_isHit_48 : decode cX7_isHit 48 = .ok (.ireturn, 1) := by decide +kernel
theorem dX7_isHit_49 : decode cX7_isHit 49 = .ok (.iinc 2 1, 3) := by decide +kernel
theorem dX7_isHit_52 : decode cX7_isHit 52 = .ok (.goto (-50), 3) := by decide +kernel
theorem dX7_isHit_55 : decode cX7_isHit 55 = .ok (.iconst 0, 1) := by decide +kernel
theorem dX7_isHit_56 : decode cX7_isHit 56 = .ok (.ireturn, 1) := by decide +kernel
theorem dX7_isWatched_0 : decode cX7_isWatched 0 = .ok (.iconst 0, 1) := by decide +kernel
theorem dX7_isWatched_1 : decode cX7_isWatched 1 = .ok (.istore_n 3, 1) := by decide +kernel
theorem dX7_isWatched_2 : decode cX7_isWatched 2 = .ok (.iload_n 3, 1) := by decide +kernel
theorem dX7_isWatched_3 : decode cX7_isWatched 3 = .ok (.aload_n 0, 1) := by decide +kernel
theorem dX7_isWatched_4 : decode cX7_isWatched 4 = .ok (.getfield 31, 3) := by decide +kernel
theorem dX7_isWatched_7 : decode cX7_isWatched 7 = .ok (.if_icmp .ge 60, 3) := by decide +kernel
theorem dX7_isWatched_10 : decode cX7_isWatched 10 = .ok (.aload_n 0, 1) := by decide +kernel
theorem dX7_isWatched_11 : decode cX7_isWatched 11 = .ok (.getfield 18, 3) := by decide +kernel
theorem dX7_isWatched_14 : decode cX7_isWatched 14 = .ok (.iload_n 3, 1) := by decide +kernel
theorem dX7_isWatched_15 : decode cX7_isWatched 15 = .ok (.invokestatic 37, 3) := by decide +kernel
theorem dX7_isWatched_18 : decode cX7_isWatched 18 = .ok (.iload_n 1, 1) := by decide +kernel
theorem dX7_isWatched_19 : decode cX7_isWatched 19 = .ok (.if_icmp .gt 19, 3) := by decide +kernel
theorem dX7_isWatched_22 : decode cX7_isWatched 22 = .ok (.iload_n 1, 1) := by decide +kernel
theorem dX7_isWatched_23 : decode cX7_isWatched 23 = .ok (.aload_n 0, 1) := by decide +kernel
theorem dX7_isWatched_24 : decode cX7_isWatched 24 = .ok (.getfield 21, 3) := by decide +kernel
theorem dX7_isWatched_27 : decode cX7_isWatched 27 = .ok (.iload_n 3, 1) := by decide +kernel
theorem dX7_isWatched_28 : decode cX7_isWatched 28 = .ok (.invokestatic 37, 3) := by decide +kernel
theorem dX7_isWatched_31 : decode cX7_isWatched 31 = .ok (.if_icmp .gt 7, 3) := by decide +kernel
theorem dX7_isWatched_34 : decode cX7_isWatched 34 = .ok (.iconst 1, 1) := by decide +kernel
theorem dX7_isWatched_35 : decode cX7_isWatched 35 = .ok (.goto 4, 3) := by decide +kernel
theorem dX7_isWatched_38 : decode cX7_isWatched 38 = .ok (.iconst 0, 1) := by decide +kernel
theorem dX7_isWatched_39 : decode cX7_isWatched 39 = .ok (.istore 4, 2) := by decide +kernel
theorem dX7_isWatched_41 : decode cX7_isWatched 41 = .ok (.iload 4, 2) := by decide +kernel
theorem dX7_isWatched_43 : decode cX7_isWatched 43 = .ok (.ifCond .eq 18, 3) := by decide +kernel
theorem dX7_isWatched_46 : decode cX7_isWatched 46 = .ok (.aload_n 0, 1) := by decide +kernel
theorem dX7_isWatched_47 : decode cX7_isWatched 47 = .ok (.getfield 24, 3) := by decide +kernel
theorem dX7_isWatched_50 : decode cX7_isWatched 50 = .ok (.iload_n 3, 1) := by decide +kernel
theorem dX7_isWatched_51 : decode cX7_isWatched 51 = .ok (.invokestatic 37, 3) := by decide +kernel
theorem dX7_isWatched_54 : decode cX7_isWatched 54 = .ok (.iload_n 2, 1) := by decide +kernel
theorem dX7_isWatched_55 : decode cX7_isWatched 55 = .ok (.iand, 1) := by decide +kernel
theorem dX7_isWatched_56 : decode cX7_isWatched 56 = .ok (.ifCond .eq 5, 3) := by decide +kernel
theorem dX7_isWatched_59 : decode cX7_isWatched 59 = .ok (.iconst 1, 1) := by decide +kernel
theorem dX7_isWatched_60 : decode cX7_isWatched 60 = .ok (.ireturn, 1) := by decide +kernel
theorem dX7_isWatched_61 : decode cX7_isWatched 61 = .ok (.iinc 3 1, 3) := by decide +kernel
theorem dX7_isWatched_64 : decode cX7_isWatched 64 = .ok (.goto (-62), 3) := by decide +kernel
theorem dX7_isWatched_67 : decode cX7_isWatched 67 = .ok (.iconst 0, 1) := by decide +kernel
theorem dX7_isWatched_68 : decode cX7_isWatched 68 = .ok (.ireturn, 1) := by decide +kernel
theorem dX8_init_0 : decode cX8_init 0 = .ok (.aload_n 0, 1) := by decide +kernel
theorem dX8_init_1 : decode cX8_init 1 = .ok (.invokespecial 3, 3) := by decide +kernel
theorem dX8_init_4 : decode cX8_init 4 = .ok (.aload_n 0, 1) := by decide +kernel
theorem dX8_init_5 : decode cX8_init 5 = .ok (.bipush 120, 2) := by decide +kernel
theorem dX8_init_7 : decode cX8_init 7 = .ok (.anewarray 9, 3) := by decide +kernel
theorem dX8_init_10 : decode cX8_init 10 = .ok (.putfield 11, 3) := by decide +kernel
theorem dX8_init_13 : decode cX8_init 13 = .ok (.aload_n 0, 1) := by decide +kernel
theorem dX8_init_14 : decode cX8_init 14 = .ok (.new 9, 3) := by decide +kernel
theorem dX8_init_17 : decode cX8_init 17 = .ok (.dup, 1) := by decide +kernel
theorem dX8_init_18 : decode cX8_init 18 = .ok (.invokespecial 17, 3) := by decide +kernel
theorem dX8_init_21 : decode cX8_init 21 = .ok (.putfield 18, 3) := by decide +kernel
theorem dX8_init_24 : decode cX8_init 24 = .ok (.aload_n 0, 1) := by decide +kernel
theorem dX8_init_25 : decode cX8_init 25 = .ok (.aload_n 1, 1) := by decide +kernel
theorem dX8_init_26 : decode cX8_init 26 = .ok (.putfield 22, 3) := by decide +kernel
theorem dX8_init_29 : decode cX8_init 29 = .ok (.aload_n 0, 1) := by decide +kernel
theorem dX8_init_30 : decode cX8_init 30 = .ok (.aload_n 2, 1) := by decide +kernel
theorem dX8_init_31 : decode cX8_init 31 = .ok (.putfield 26, 3) := by decide +kernel
theorem dX8_init_34 : decode cX8_init 34 = .ok (.iconst 0, 1) := by decide +kernel
theorem dX8_init_35 : decode cX8_init 35 = .ok (.istore_n 3, 1) := by decide +kernel
theorem dX8_init_36 : decode cX8_init 36 = .ok (.iload_n 3, 1) := by decide +kernel
theorem dX8_init_37 : decode cX8_init 37 = .ok (.aload_n 0, 1) := by decide +kernel
theorem dX8_init_38 : decode cX8_init 38 = .ok (.getfield 11, 3) := by decide +kernel
theorem dX8_init_41 : decode cX8_init 41 = .ok (.arraylength, 1) := by decide +kernel
theorem dX8_init_42 : decode cX8_init 42 = .ok (.if_icmp .ge 22, 3) := by decide +kernel
theorem dX8_init_45 : decode cX8_init 45 = .ok (.aload_n 0, 1) := by decide +kernel
theorem dX8_init_46 : decode cX8_init 46 = .ok (.getfield 11, 3) := by decide +kernel
theorem dX8_init_49 : decode cX8_init 49 = .ok (.iload_n 3, 1) := by decide +kernel
theorem dX8_init_50 : decode cX8_init 50 = .ok (.new 9, 3) := by decide +kernel
theorem dX8_init_53 : decode cX8_init 53 = .ok (.dup, 1) := by decide +kernel
theorem dX8_init_54 : decode cX8_init 54 = .ok (.invokespecial 17, 3) := by decide +kernel
theorem dX8_init_57 : decode cX8_init 57 = .ok (.aastore, 1) := by decide +kernel
theorem dX8_init_58 : decode cX8_init 58 = .ok (.iinc 3 1, 3) := by decide +kernel
theorem dX8_init_61 : decode cX8_init 61 = .ok (.goto (-25), 3) := by decide +kernel
theorem dX8_init_64 : decode cX8_init 64 = .ok (.return_, 1) := by decide +kernel
theorem dX8_line_0 : decode cX8_line 0 = .ok (.iload_n 1, 1) := by decide +kernel
theorem dX8_line_1 : decode cX8_line 1 = .ok (.ifCond .lt 25, 3) := by decide +kernel
theorem dX8_line_4 : decode cX8_line 4 = .ok (.iload_n 1, 1) := by decide +kernel
theorem dX8_line_5 : decode cX8_line 5 = .ok (.aload_n 0, 1) := by decide +kernel
theorem dX8_line_6 : decode cX8_line 6 = .ok (.getfield 11, 3) := by decide +kernel
theorem dX8_line_9 : decode cX8_line 9 = .ok (.arraylength, 1) := by decide +kernel
theorem dX8_line_10 : decode cX8_line 10 = .ok (.if_icmp .ge 16, 3) := by decide +kernel
theorem dX8_line_13 : decode cX8_line 13 = .ok (.aload_n 0, 1) := by decide +kernel
theorem dX8_line_14 : decode cX8_line 14 = .ok (.getfield 11, 3) := by decide +kernel
theorem dX8_line_17 : decode cX8_line 17 = .ok (.iload_n 1, 1) := by decide +kernel
theorem dX8_line_18 : decode cX8_line 18 = .ok (.aaload, 1) := by decide +kernel
theorem dX8_line_19 : decode cX8_line 19 = .ok (.ifnull 7, 3) := by decide +kernel
theorem dX8_line_22 : decode cX8_line 22 = .ok (.iconst 1, 1) := by decide +kernel
theorem dX8_line_23 : decode cX8_line 23 = .ok (.goto 4, 3) := by decide +kernel
theorem dX8_line_26 : decode cX8_line 26 = .ok (.iconst 0, 1) := by decide +kernel
theorem dX8_line_27 : decode cX8_line 27 = .ok (.istore_n 2, 1) := by decide +kernel
theorem dX8_line_28 : decode cX8_line 28 = .ok (.iload_n 2, 1) := by decide +kernel
theorem dX8_line_29 : decode cX8_line 29 = .ok (.ifCond .eq 12, 3) := by decide +kernel
theorem dX8_line_32 : decode cX8_line 32 = .ok (.aload_n 0, 1) := by decide +kernel
theorem dX8_line_33 : decode cX8_line 33 = .ok (.getfield 11, 3) := by decide +kernel
theorem dX8_line_36 : decode cX8_line 36 = .ok (.iload_n 1, 1) := by decide +kernel
theorem dX8_line_37 : decode cX8_line 37 = .ok (.aaload, 1) := by decide +kernel
theorem dX8_line_38 : decode cX8_line 38 = .ok (.goto 7, 3) := by decide +kernel
theorem dX8_line_41 : decode cX8_line 41 = .ok (.aload_n 0, 1) := by decide +kernel
theorem dX8_line_42 : decode cX8_line 42 = .ok (.getfield 18, 3) := by decide +kernel
theorem dX8_line_45 : decode cX8_line 45 = .ok (.areturn, 1) := by decide +kernel
theorem dX8_firstFault_0 : decode cX8_firstFault 0 = .ok (.aload_n 0, 1) := by decide +kernel
theorem dX8_firstFault_1 : decode cX8_firstFault 1 = .ok (.iconst 0, 1) := by decide +kernel
theorem dX8_firstFault_2 : decode cX8_firstFault 2 = .ok (.putfield 30, 3) := by decide +kernel
theorem dX8_firstFault_5 : decode cX8_firstFault 5 = .ok (.aload_n 0, 1) := by decide +kernel
theorem dX8_firstFault_6 : decode cX8_firstFault 6 = .ok (.getfield 26, 3) := by decide +kernel
theorem dX8_firstFault_9 : decode cX8_firstFault 9 = .ok (.iconst 0, 1) := by decide +kernel
theorem dX8_firstFault_10 : decode cX8_firstFault 10 = .ok (.putfield 34, 3) := by decide +kernel
theorem dX8_firstFault_13 : decode cX8_firstFault 13 = .ok (.iconst 0, 1) := by decide +kernel
theorem dX8_firstFault_14 : decode cX8_firstFault 14 = .ok (.istore_n 1, 1) := by decide +kernel
theorem dX8_firstFault_15 : decode cX8_firstFault 15 = .ok (.iload_n 1, 1) := by decide +kernel
theorem dX8_firstFault_16 : decode cX8_firstFault 16 = .ok (.bipush 120, 2) := by decide +kernel
theorem dX8_firstFault_18 : decode cX8_firstFault 18 = .ok (.if_icmp .gt 88, 3) := by decide +kernel
theorem dX8_firstFault_21 : decode cX8_firstFault 21 = .ok (.aload_n 0, 1) := by decide +kernel
theorem dX8_firstFault_22 : decode cX8_firstFault 22 = .ok (.getfield 26, 3) := by decide +kernel
theorem dX8_firstFault_25 : decode cX8_firstFault 25 = .ok (.getfield 34, 3) := by decide +kernel
theorem dX8_firstFault_28 : decode cX8_firstFault 28 = .ok (.aload_n 0, 1) := by decide +kernel
theorem dX8_firstFault_29 : decode cX8_firstFault 29 = .ok (.getfield 22, 3) := by decide +kernel
theorem dX8_firstFault_32 : decode cX8_firstFault 32 = .ok (.getfield 39, 3) := by decide +kernel
theorem dX8_firstFault_35 : decode cX8_firstFault 35 = .ok (.if_icmp .ge 71, 3) := by decide +kernel
theorem dX8_firstFault_38 : decode cX8_firstFault 38 = .ok (.iload_n 1, 1) := by decide +kernel
theorem dX8_firstFault_39 : decode cX8_firstFault 39 = .ok (.bipush 120, 2) := by decide +kernel
theorem dX8_firstFault_41 : decode cX8_firstFault 41 = .ok (.if_icmp .ne 22, 3) := by decide +kernel
theorem dX8_firstFault_44 : decode cX8_firstFault 44 = .ok (.aload_n 0, 1) := by decide +kernel
theorem dX8_firstFault_45 : decode cX8_firstFault 45 = .ok (.getfield 22, 3) := by decide +kernel
theorem dX8_firstFault_48 : decode cX8_firstFault 48 = .ok (.aload_n 0, 1) := by decide +kernel
theorem dX8_firstFault_49 : decode cX8_firstFault 49 = .ok (.getfield 26, 3) := by decide +kernel
theorem dX8_firstFault_52 : decode cX8_firstFault 52 = .ok (.getfield 34, 3) := by decide +kernel
theorem dX8_firstFault_55 : decode cX8_firstFault 55 = .ok (.iconst 1, 1) := by decide +kernel
theorem dX8_firstFault_56 : decode cX8_firstFault 56 = .ok (.isub, 1) := by decide +kernel
theorem dX8_firstFault_57 : decode cX8_firstFault 57 = .ok (.invokevirtual 44, 3) := by decide +kernel
theorem dX8_firstFault_60 : decode cX8_firstFault 60 = .ok (.iconst 1, 1) := by decide +kernel
theorem dX8_firstFault_61 : decode cX8_firstFault 61 = .ok (.iadd, 1) := by decide +kernel
theorem dX8_firstFault_62 : decode cX8_firstFault 62 = .ok (.ireturn, 1) := by decide +kernel
theorem dX8_firstFault_63 : decode cX8_firstFault 63 = .ok (.aload_n 0, 1) := by decide +kernel
theorem dX8_firstFault_64 : decode cX8_firstFault 64 = .ok (.dup, 1) := by decide +kernel
theorem dX8_firstFault_65 : decode cX8_firstFault 65 = .ok (.getfield 30, 3) := by decide +kernel
theorem dX8_firstFault_68 : decode cX8_firstFault 68 = .ok (.iconst 1, 1) := by decide +kernel
theorem dX8_firstFault_69 : decode cX8_firstFault 69 = .ok (.iadd, 1) := by decide +kernel
theorem dX8_firstFault_70 : decode cX8_firstFault 70 = .ok (.putfield 30, 3) := by decide +kernel
theorem dX8_firstFault_73 : decode cX8_firstFault 73 = .ok (.aload_n 0, 1) := by decide +kernel
theorem dX8_firstFault_74 : decode cX8_firstFault 74 = .ok (.aload_n 0, 1) := by decide +kernel
theorem dX8_firstFault_75 : decode cX8_firstFault 75 = .ok (.iload_n 1, 1) := by decide +kernel
theorem dX8_firstFault_76 : decode cX8_firstFault 76 = .ok (.invokevirtual 48, 3) := by decide +kernel
theorem dX8_firstFault_79 : decode cX8_firstFault 79 = .ok (.invokevirtual 52, 3) := by decide +kernel
theorem dX8_firstFault_82 : decode cX8_firstFault 82 = .ok (.ifCond .ne 18, 3) := by decide +kernel
theorem dX8_firstFault_85 : decode cX8_firstFault 85 = .ok (.aload_n 0, 1) := by decide +kernel
theorem dX8_firstFault_86 : decode cX8_firstFault 86 = .ok (.getfield 22, 3) := by decide +kernel
theorem dX8_firstFault_89 : decode cX8_firstFault 89 = .ok (.aload_n 0, 1) := by decide +kernel
theorem dX8_firstFault_90 : decode cX8_firstFault 90 = .ok (.getfield 26, 3) := by decide +kernel
theorem dX8_firstFault_93 : decode cX8_firstFault 93 = .ok (.getfield 34, 3) := by decide +kernel
theorem dX8_firstFault_96 : decode cX8_firstFault 96 = .ok (.invokevirtual 44, 3) := by decide +kernel
theorem dX8_firstFault_99 : decode cX8_firstFault 99 = .ok (.ireturn, 1) := by decide +kernel
theorem dX8_firstFault_100 : decode cX8_firstFault 100 = .ok (.iinc 1 1, 3) := by decide +kernel
theorem dX8_firstFault_103 : decode cX8_firstFault 103 = .ok (.goto (-88), 3) := by decide +kernel
theorem dX8_firstFault_106 : decode cX8_firstFault 106 = .ok (.iconst (-1), 1) := by decide +kernel
theorem dX8_firstFault_107 : decode cX8_firstFault 107 = .ok (.ireturn, 1) := by decide +kernel
theorem dX8_readLine_0 : decode cX8_readLine 0 = .ok (.aload_n 1, 1) := by decide +kernel
theorem dX8_readLine_1 : decode cX8_readLine 1 = .ok (.invokevirtual 56, 3) := by decide +kernel
theorem dX8_readLine_4 : decode cX8_readLine 4 = .ok (.aload_n 0, 1) := by decide +kernel
theorem dX8_readLine_5 : decode cX8_readLine 5 = .ok (.getfield 26, 3) := by decide +kernel
theorem dX8_readLine_8 : decode cX8_readLine 8 = .ok (.getfield 34, 3) := by decide +kernel
theorem dX8_readLine_11 : decode cX8_readLine 11 = .ok (.istore_n 2, 1) := by decide +kernel
theorem dX8_readLine_12 : decode cX8_readLine 12 = .ok (.aload_n 0, 1) := by decide +kernel
theorem dX8_readLine_13 : decode cX8_readLine 13 = .ok (.getfield 26, 3) := by decide +kernel
theorem dX8_readLine_16 : decode cX8_readLine 16 = .ok (.bipush 97, 2) := by decide +kernel
theorem dX8_readLine_18 : decode cX8_readLine 18 = .ok (.invokevirtual 59, 3) := by decide +kernel
theorem dX8_readLine_21 : decode cX8_readLine 21 = .ok (.ifCond .eq 42, 3) := by decide +kernel
theorem dX8_readLine_24 : decode cX8_readLine 24 = .ok (.aload_n 1, 1) := by decide +kernel
theorem dX8_readLine_25 : decode cX8_readLine 25 = .ok (.iload_n 2, 1) := by decide +kernel
theorem dX8_readLine_26 : decode cX8_readLine 26 = .ok (.putfield 63, 3) := by decide +kernel
theorem dX8_readLine_29 : decode cX8_readLine 29 = .ok (.aload_n 1, 1) := by decide +kernel
theorem dX8_readLine_30 : decode cX8_readLine 30 = .ok (.aload_n 0, 1) := by decide +kernel
theorem dX8_readLine_31 : decode cX8_readLine 31 = .ok (.getfield 26, 3) := by decide +kernel
theorem dX8_readLine_34 : decode cX8_readLine 34 = .ok (.bipush 61, 2) := by decide +kernel
theorem dX8_readLine_36 : decode cX8_readLine 36 = .ok (.invokevirtual 59, 3) := by decide +kernel
theorem dX8_readLine_39 : decode cX8_readLine 39 = .ok (.putfield 66, 3) := by decide +kernel
theorem dX8_readLine_42 : decode cX8_readLine 42 = .ok (.aload_n 1, 1) := by decide +kernel
theorem dX8_readLine_43 : decode cX8_readLine 43 = .ok (.getfield 66, 3) := by decide +kernel
theorem dX8_readLine_46 : decode cX8_readLine 46 = .ok (.ifCond .ne 17, 3) := by decide +kernel
theorem dX8_readLine_49 : decode cX8_readLine 49 = .ok (.aload_n 0, 1) := by decide +kernel
theorem dX8_readLine_50 : decode cX8_readLine 50 = .ok (.getfield 26, 3) := by decide +kernel
theorem dX8_readLine_53 : decode cX8_readLine 53 = .ok (.bipush 58, 2) := by decide +kernel
theorem dX8_readLine_55 : decode cX8_readLine 55 = .ok (.invokevirtual 59, 3) := by decide +kernel
theorem dX8_readLine_58 : decode cX8_readLine 58 = .ok (.ifCond .ne 5, 3) := by decide +kernel
theorem dX8_readLine_61 : decode cX8_readLine 61 = .ok (.iconst 0, 1) := by decide +kernel
theorem dX8_readLine_62 : decode cX8_readLine 62 = .ok (.ireturn, 1) := by decide +kernel
theorem dX8_readLine_63 : decode cX8_readLine 63 = .ok (.aload_n 0, 1) := by decide +kernel
theorem dX8_readLine_64 : decode cX8_readLine 64 = .ok (.getfield 26, 3) := by decide +kernel
theorem dX8_readLine_67 : decode cX8_readLine 67 = .ok (.getfield 34, 3) := by decide +kernel
theorem dX8_readLine_70 : decode cX8_readLine 70 = .ok (.istore_n 3, 1) := by decide +kernel
theorem dX8_readLine_71 : decode cX8_readLine 71 = .ok (.iconst 1, 1) := by decide +kernel
theorem dX8_readLine_72 : decode cX8_readLine 72 = .ok (.istore 4, 2) := by decide +kernel
theorem dX8_readLine_74 : decode cX8_readLine 74 = .ok (.aload_n 1, 1) := by decide +kernel
theorem dX8_readLine_75 : decode cX8_readLine 75 = .ok (.getfield 66, 3) := by decide +kernel
theorem dX8_readLine_78 : decode cX8_readLine 78 = .ok (.ifCond .eq 21, 3) := by decide +kernel
theorem dX8_readLine_81 : decode cX8_readLine 81 = .ok (.aload_n 1, 1) := by decide +kernel
theorem dX8_readLine_82 : decode cX8_readLine 82 = .ok (.iload_n 3, 1) := by decide +kernel
theorem dX8_readLine_83 : decode cX8_readLine 83 = .ok (.putfield 70, 3) := by decide +kernel
theorem dX8_readLine_86 : decode cX8_readLine 86 = .ok (.aload_n 0, 1) := by decide +kernel
theorem dX8_readLine_87 : decode cX8_readLine 87 = .ok (.getfield 26, 3) := by decide +kernel
theorem dX8_readLine_90 : decode cX8_readLine 90 = .ok (.iconst 0, 1) := by decide +kernel
theorem dX8_readLine_91 : decode cX8_readLine 91 = .ok (.invokevirtual 73, 3) := by decide +kernel
theorem dX8_readLine_94 : decode cX8_readLine 94 = .ok (.istore 4, 2) := by decide +kernel
theorem dX8_readLine_96 : decode cX8_readLine 96 = .ok (.goto 62, 3) := by decide +kernel
theorem dX8_readLine_99 : decode cX8_readLine 99 = .ok (.aload_n 0, 1) := by decide +kernel
theorem dX8_readLine_100 : decode cX8_readLine 100 = .ok (.getfield 26, 3) := by decide +kernel
theorem dX8_readLine_103 : decode cX8_readLine 103 = .ok (.bipush 65, 2) := by decide +kernel
theorem dX8_readLine_105 : decode cX8_readLine 105 = .ok (.invokevirtual 59, 3) := by decide +kernel
theorem dX8_readLine_108 : decode cX8_readLine 108 = .ok (.ifCond .eq 18, 3) := by decide +kernel
theorem dX8_readLine_111 : decode cX8_readLine 111 = .ok (.aload_n 1, 1) := by decide +kernel
theorem dX8_readLine_112 : decode cX8_readLine 112 = .ok (.iload_n 3, 1) := by decide +kernel
theorem dX8_readLine_113 : decode cX8_readLine 113 = .ok (.putfield 76, 3) := by decide +kernel
theorem dX8_readLine_116 : decode cX8_readLine 116 = .ok (.aload_n 0, 1) := by decide +kernel
theorem dX8_readLine_117 : decode cX8_readLine 117 = .ok (.aload_n 1, 1) := by decide +kernel
theorem dX8_readLine_118 : decode cX8_readLine 118 = .ok (.invokevirtual 79, 3) := by decide +kernel
theorem dX8_readLine_121 : decode cX8_readLine 121 = .ok (.istore 4, 2) := by decide +kernel
theorem dX8_readLine_123 : decode cX8_readLine 123 = .ok (.goto 35, 3) := by decide +kernel
theorem dX8_readLine_126 : decode cX8_readLine 126 = .ok (.aload_n 0, 1) := by decide +kernel
theorem dX8_readLine_127 : decode cX8_readLine 127 = .ok (.getfield 26, 3) := by decide +kernel
theorem dX8_readLine_130 : decode cX8_readLine 130 = .ok (.bipush 46, 2) := by decide +kernel
theorem dX8_readLine_132 : decode cX8_readLine 132 = .ok (.invokevirtual 59, 3) := by decide +kernel
theorem dX8_readLine_135 : decode cX8_readLine 135 = .ok (.ifCond .eq 23, 3) := by decide +kernel
theorem dX8_readLine_138 : decode cX8_readLine 138 = .ok (.aload_n 1, 1) := by decide +kernel
theorem dX8_readLine_139 : decode cX8_readLine 139 = .ok (.iload_n 3, 1) := by decide +kernel
theorem dX8_readLine_140 : decode cX8_readLine 140 = .ok (.putfield 76, 3) := by decide +kernel
theorem dX8_readLine_143 : decode cX8_readLine 143 = .ok (.aload_n 0, 1) := by decide +kernel
theorem dX8_readLine_144 : decode cX8_readLine 144 = .ok (.aload_n 1, 1) := by decide +kernel
theorem dX8_readLine_145 : decode cX8_readLine 145 = .ok (.aload_n 0, 1) := by decide +kernel
theorem dX8_readLine_146 : decode cX8_readLine 146 = .ok (.getfield 22, 3) := by decide +kernel
theorem dX8_readLine_149 : decode cX8_readLine 149 = .ok (.iload_n 3, 1) := by decide +kernel
theorem dX8_readLine_150 : decode cX8_readLine 150 = .ok (.invokevirtual 82, 3) := by decide +kernel
theorem dX8_readLine_153 : decode cX8_readLine 153 = .ok (.invokevirtual 85, 3) := by decide +kernel
theorem dX8_readLine_156 : decode cX8_readLine 156 = .ok (.istore 4, 2) := by decide +kernel
theorem dX8_readLine_158 : decode cX8_readLine 158 = .ok (.iload 4, 2) := by decide +kernel
theorem dX8_readLine_160 : decode cX8_readLine 160 = .ok (.ifCond .eq 19, 3) := by decide +kernel
theorem dX8_readLine_163 : decode cX8_readLine 163 = .ok (.aload_n 0, 1) := by decide +kernel
theorem dX8_readLine_164 : decode cX8_readLine 164 = .ok (.getfield 26, 3) := by decide +kernel
theorem dX8_readLine_167 : decode cX8_readLine 167 = .ok (.bipush 10, 2) := by decide +kernel
theorem dX8_readLine_169 : decode cX8_readLine 169 = .ok (.invokevirtual 59, 3) := by decide +kernel
theorem dX8_readLine_172 : decode cX8_readLine 172 = .ok (.ifCond .eq 7, 3) := by decide +kernel
theorem dX8_readLine_175 : decode cX8_readLine 175 = .ok (.iconst 1, 1) := by decide +kernel
theorem dX8_readLine_176 : decode cX8_readLine 176 = .ok (.goto 4, 3) := by decide +kernel
theorem dX8_readLine_179 : decode cX8_readLine 179 = .ok (.iconst 0, 1) := by decide +kernel
theorem dX8_readLine_180 : decode cX8_readLine 180 = .ok (.ireturn, 1) := by decide +kernel
theorem dX9_init_0 : decode cX9_init 0 = .ok (.aload_n 0, 1) := by decide +kernel
theorem dX9_init_1 : decode cX9_init 1 = .ok (.invokespecial 3, 3) := by decide +kernel
theorem dX9_init_4 : decode cX9_init 4 = .ok (.aload_n 0, 1) := by decide +kernel
theorem dX9_init_5 : decode cX9_init 5 = .ok (.sipush 2000, 3) := by decide +kernel
theorem dX9_init_8 : decode cX9_init 8 = .ok (.newarray .int, 2) := by decide +kernel
theorem dX9_init_10 : decode cX9_init 10 = .ok (.putfield 9, 3) := by decide +kernel
theorem dX9_init_13 : decode cX9_init 13 = .ok (.aload_n 0, 1) := by decide +kernel
theorem dX9_init_14 : decode cX9_init 14 = .ok (.sipush 2001, 3) := by decide +kernel
theorem dX9_init_17 : decode cX9_init 17 = .ok (.newarray .int, 2) := by decide +kernel
theorem dX9_init_19 : decode cX9_init 19 = .ok (.putfield 15, 3) := by decide +kernel
theorem dX9_init_22 : decode cX9_init 22 = .ok (.aload_n 0, 1) := by decide +kernel
theorem dX9_init_23 : decode cX9_init 23 = .ok (.sipush 2001, 3) := by decide +kernel
theorem dX9_init_26 : decode cX9_init 26 = .ok (.newarray .int, 2) := by decide +kernel
theorem dX9_init_28 : decode cX9_init 28 = .ok (.putfield 18, 3) := by decide +kernel
theorem dX9_init_31 : decode cX9_init 31 = .ok (.aload_n 0, 1) := by decide +kernel
theorem dX9_init_32 : decode cX9_init 32 = .ok (.sipush 2001, 3) := by decide +kernel
theorem dX9_init_35 : decode cX9_init 35 = .ok (.newarray .long, 2) := by decide +kernel
theorem dX9_init_37 : decode cX9_init 37 = .ok (.putfield 21, 3) := by decide +kernel
theorem dX9_init_40 : decode cX9_init 40 = .ok (.return_, 1) := by decide +kernel
theorem dX9_append_0 : decode cX9_append 0 = .ok (.bipush 24, 2) := by decide +kernel
theorem dX9_append_2 : decode cX9_append 2 = .ok (.istore_n 2, 1) := by decide +kernel
theorem dX9_append_3 : decode cX9_append 3 = .ok (.iload_n 2, 1) := by decide +kernel
theorem dX9_append_4 : decode cX9_append 4 = .ok (.ifCond .lt 37, 3) := by decide +kernel
theorem dX9_append_7 : decode cX9_append 7 = .ok (.aload_n 0, 1) := by decide +kernel
theorem dX9_append_8 : decode cX9_append 8 = .ok (.getfield 9, 3) := by decide +kernel
theorem dX9_append_11 : decode cX9_append 11 = .ok (.aload_n 0, 1) := by decide +kernel
theorem dX9_append_12 : decode cX9_append 12 = .ok (.getfield 25, 3) := by decide +kernel
theorem dX9_append_15 : decode cX9_append 15 = .ok (.iload_n 1, 1) := by decide +kernel
theorem dX9_append_16 : decode cX9_append 16 = .ok (.iload_n 2, 1) := by decide +kernel
theorem dX9_append_17 : decode cX9_append 17 = .ok (.ishr, 1) := by decide +kernel
theorem dX9_append_18 : decode cX9_append 18 = .ok (.sipush 255, 3) := by decide +kernel
theorem dX9_append_21 : decode cX9_append 21 = .ok (.iand, 1) := by decide +kernel
theorem dX9_append_22 : decode cX9_append 22 = .ok (.invokestatic 29, 3) := by decide +kernel
theorem dX9_append_25 : decode cX9_append 25 = .ok (.aload_n 0, 1) := by decide +kernel
theorem dX9_append_26 : decode cX9_append 26 = .ok (.dup, 1) := by decide +kernel
theorem dX9_append_27 : decode cX9_append 27 = .ok (.getfield 25, 3) := by decide +kernel
theorem dX9_append_30 : decode cX9_append 30 = .ok (.iconst 1, 1) := by decide +kernel
theorem dX9_append_31 : decode cX9_append 31 = .ok (.iadd, 1) := by decide +kernel
theorem dX9_append_32 : decode cX9_append 32 = .ok (.putfield 25, 3) := by decide +kernel
theorem dX9_append_35 : decode cX9_append 35 = .ok (.iinc 2 (-8), 3) := by decide +kernel
theorem dX9_append_38 : decode cX9_append 38 = .ok (.goto (-35), 3) := by decide +kernel
theorem dX9_append_41 : decode cX9_append 41 = .ok (.return_, 1) := by decide +kernel
theorem dX9_start_0 : decode cX9_start 0 = .ok (.aload_n 0, 1) := by decide +kernel
theorem dX9_start_1 : decode cX9_start 1 = .ok (.getfield 18, 3) := by decide +kernel
theorem dX9_start_4 : decode cX9_start 4 = .ok (.iload_n 1, 1) := by decide +kernel
theorem dX9_start_5 : decode cX9_start 5 = .ok (.invokestatic 33, 3) := by decide +kernel
theorem dX9_start_8 : decode cX9_start 8 = .ok (.ireturn, 1) := by decide +kernel
theorem dX9_word_0 : decode cX9_word 0 = .ok (.aload_n 0, 1) := by decide +kernel
theorem dX9_word_1 : decode cX9_word 1 = .ok (.getfield 15, 3) := by decide +kernel
theorem dX9_word_4 : decode cX9_word 4 = .ok (.iload_n 1, 1) := by decide +kernel
theorem dX9_word_5 : decode cX9_word 5 = .ok (.invokestatic 33, 3) := by decide +kernel
theorem dX9_word_8 : decode cX9_word 8 = .ok (.bipush 46, 2) := by decide +kernel
theorem dX9_word_10 : decode cX9_word 10 = .ok (.if_icmp .ne 19, 3) := by decide +kernel
theorem dX9_word_13 : decode cX9_word 13 = .ok (.iload_n 1, 1) := by decide +kernel
theorem dX9_word_14 : decode cX9_word 14 = .ok (.ifCond .lt 15, 3) := by decide +kernel
theorem dX9_word_17 : decode cX9_word 17 = .ok (.aload_n 0, 1) := by decide +kernel
theorem dX9_word_18 : decode cX9_word 18 = .ok (.getfield 21, 3) := by decide +kernel
theorem dX9_word_21 : decode cX9_word 21 = .ok (.iload_n 1, 1) := by decide +kernel
theorem dX9_word_22 : decode cX9_word 22 = .ok (.invokestatic 37, 3) := by decide +kernel
theorem dX9_word_25 : decode cX9_word 25 = .ok (.l2i, 1) := by decide +kernel
theorem dX9_word_26 : decode cX9_word 26 = .ok (.goto 4, 3) := by decide +kernel
theorem dX9_word_29 : decode cX9_word 29 = .ok (.iconst (-1), 1) := by decide +kernel
theorem dX9_word_30 : decode cX9_word 30 = .ok (.ireturn, 1) := by decide +kernel
theorem dX9_split_0 : decode cX9_split 0 = .ok (.aload_n 0, 1) := by decide +kernel
theorem dX9_split_1 : decode cX9_split 1 = .ok (.iconst 0, 1) := by decide +kernel
theorem dX9_split_2 : decode cX9_split 2 = .ok (.putfield 40, 3) := by decide +kernel
theorem dX9_split_5 : decode cX9_split 5 = .ok (.iconst 0, 1) := by decide +kernel
theorem dX9_split_6 : decode cX9_split 6 = .ok (.istore_n 1, 1) := by decide +kernel
theorem dX9_split_7 : decode cX9_split 7 = .ok (.iconst 0, 1) := by decide +kernel
theorem dX9_split_8 : decode cX9_split 8 = .ok (.istore_n 2, 1) := by decide +kernel
theorem dX9_split_9 : decode cX9_split 9 = .ok (.iload_n 2, 1) := by decide +kernel
theorem dX9_split_10 : decode cX9_split 10 = .ok (.sipush 2000, 3) := by decide +kernel
theorem dX9_split_13 : decode cX9_split 13 = .ok (.if_icmp .ge 23, 3) := by decide +kernel
theorem dX9_split_16 : decode cX9_split 16 = .ok (.iload_n 1, 1) := by decide +kernel
theorem dX9_split_17 : decode cX9_split 17 = .ok (.aload_n 0, 1) := by decide +kernel
theorem dX9_split_18 : decode cX9_split 18 = .ok (.getfield 25, 3) := by decide +kernel
theorem dX9_split_21 : decode cX9_split 21 = .ok (.if_icmp .ge 15, 3) := by decide +kernel
theorem dX9_split_24 : decode cX9_split 24 = .ok (.aload_n 0, 1) := by decide +kernel
theorem dX9_split_25 : decode cX9_split 25 = .ok (.iload_n 1, 1) := by decide +kernel
theorem dX9_split_26 : decode cX9_split 26 = .ok (.invokevirtual 43, 3) := by decide +kernel
theorem dX9_split_29 : decode cX9_split 29 = .ok (.istore_n 1, 1) := by decide +kernel
theorem dX9_split_30 : decode cX9_split 30 = .ok (.iinc 2 1, 3) := by decide +kernel
theorem dX9_split_33 : decode cX9_split 33 = .ok (.goto (-24), 3) := by decide +kernel
theorem dX9_split_36 : decode cX9_split 36 = .ok (.aload_n 0, 1) := by decide +kernel
theorem dX9_split_37 : decode cX9_split 37 = .ok (.getfield 25, 3) := by decide +kernel
theorem dX9_split_40 : decode cX9_split 40 = .ok (.ifCond .eq 21, 3) := by decide +kernel
theorem dX9_split_43 : decode cX9_split 43 = .ok (.aload_n 0, 1) := by decide +kernel
theorem dX9_split_44 : decode cX9_split 44 = .ok (.getfield 9, 3) := by decide +kernel
theorem dX9_split_47 : decode cX9_split 47 = .ok (.aload_n 0, 1) := by decide +kernel
theorem dX9_split_48 : decode cX9_split 48 = .ok (.getfield 25, 3) := by decide +kernel
theorem dX9_split_51 : decode cX9_split 51 = .ok (.iconst 1, 1) := by decide +kernel
theorem dX9_split_52 : decode cX9_split 52 = .ok (.isub, 1) := by decide +kernel
theorem dX9_split_53 : decode cX9_split 53 = .ok (.invokestatic 33, 3) := by decide +kernel
theorem dX9_split_56 : decode cX9_split 56 = .ok (.bipush 10, 2) := by decide +kernel
theorem dX9_split_58 : decode cX9_split 58 = .ok (.if_icmp .eq 14, 3) := by decide +kernel
theorem dX9_split_61 : decode cX9_split 61 = .ok (.aload_n 0, 1) := by decide +kernel
theorem dX9_split_62 : decode cX9_split 62 = .ok (.bipush 10, 2) := by decide +kernel
theorem dX9_split_64 : decode cX9_split 64 = .ok (.aload_n 0, 1) := by decide +kernel
theorem dX9_split_65 : decode cX9_split 65 = .ok (.getfield 25, 3) := by decide +kernel
theorem dX9_split_68 : decode cX9_split 68 = .ok (.lconst 0, 1) := by decide +kernel
theorem dX9_split_69 : decode cX9_split 69 = .ok (.invokevirtual 47, 3) := by decide +kernel
theorem dX9_split_72 : decode cX9_split 72 = .ok (.return_, 1) := by decide +kernel
theorem dX9_add_0 : decode cX9_add 0 = .ok (.aload_n 0, 1) := by decide +kernel
theorem dX9_add_1 : decode cX9_add 1 = .ok (.getfield 15, 3) := by decide +kernel
theorem dX9_add_4 : decode cX9_add 4 = .ok (.aload_n 0, 1) := by decide +kernel
theorem dX9_add_5 : decode cX9_add 5 = .ok (.getfield 40, 3) := by decide +kernel
theorem dX9_add_8 : decode cX9_add 8 = .ok (.iload_n 1, 1) := by decide +kernel
theorem dX9_add_9 : decode cX9_add 9 = .ok (.invokestatic 29, 3) := by decide +kernel
theorem dX9_add_12 : decode cX9_add 12 = .ok (.aload_n 0, 1) := by decide +kernel
theorem dX9_add_13 : decode cX9_add 13 = .ok (.getfield 18, 3) := by decide +kernel
theorem dX9_add_16 : decode cX9_add 16 = .ok (.aload_n 0, 1) := by decide +kernel
theorem dX9_add_17 : decode cX9_add 17 = .ok (.getfield 40, 3) := by decide +kernel
theorem dX9_add_20 : decode cX9_add 20 = .ok (.iload_n 2, 1) := by decide +kernel
theorem dX9_add_21 : decode cX9_add 21 = .ok (.invokestatic 29, 3) := by decide +kernel
theorem dX9_add_24 : decode cX9_add 24 = .ok (.aload_n 0, 1) := by decide +kernel
theorem dX9_add_25 : decode cX9_add 25 = .ok (.getfield 21, 3) := by decide +kernel
theorem dX9_add_28 : decode cX9_add 28 = .ok (.aload_n 0, 1) := by decide +kernel
theorem dX9_add_29 : decode cX9_add 29 = .ok (.getfield 40, 3) := by decide +kernel
theorem dX9_add_32 : decode cX9_add 32 = .ok (.lload_n 3, 1) := by decide +kernel
theorem dX9_add_33 : decode cX9_add 33 = .ok (.invokestatic 51, 3) := by decide +kernel
theorem dX9_add_36 : decode cX9_add 36 = .ok (.aload_n 0, 1) := by decide +kernel
theorem dX9_add_37 : decode cX9_add 37 = .ok (.dup, 1) := by decide +kernel
theorem dX9_add_38 : decode cX9_add 38 = .ok (.getfield 40, 3) := by decide +kernel
theorem dX9_add_41 : decode cX9_add 41 = .ok (.iconst 1, 1) := by decide +kernel
theorem dX9_add_42 : decode cX9_add 42 = .ok (.iadd, 1) := by decide +kernel
theorem dX9_add_43 : decode cX9_add 43 = .ok (.putfield 40, 3) := by decide +kernel
theorem dX9_add_46 : decode cX9_add 46 = .ok (.return_, 1) := by decide +kernel
theorem dX10_init_0 : decode cX10_init 0 = .ok (.aload_n 0, 1) := by decide +kernel
theorem dX10_init_1 : decode cX10_init 1 = .ok (.invokespecial 3, 3) := by decide +kernel
theorem dX10_init_4 : decode cX10_init 4 = .ok (.aload_n 0, 1) := by decide +kernel
theorem dX10_init_5 : decode cX10_init 5 = .ok (.aload_n 1, 1) := by decide +kernel
theorem dX10_init_6 : decode cX10_init 6 = .ok (.putfield 9, 3) := by decide +kernel
theorem dX10_init_9 : decode cX10_init 9 = .ok (.aload_n 0, 1) := by decide +kernel
theorem dX10_init_10 : decode cX10_init 10 = .ok (.aload_n 2, 1) := by decide +kernel
theorem dX10_init_11 : decode cX10_init 11 = .ok (.putfield 15, 3) := by decide +kernel
theorem dX10_init_14 : decode cX10_init 14 = .ok (.return_, 1) := by decide +kernel
theorem dX10_kind_0 : decode cX10_kind 0 = .ok (.aload_n 0, 1) := by decide +kernel
theorem dX10_kind_1 : decode cX10_kind 1 = .ok (.getfield 19, 3) := by decide +kernel
theorem dX10_kind_4 : decode cX10_kind 4 = .ok (.ifCond .lt 36, 3) := by decide +kernel
theorem dX10_kind_7 : decode cX10_kind 7 = .ok (.aload_n 0, 1) := by decide +kernel
theorem dX10_kind_8 : decode cX10_kind 8 = .ok (.getfield 19, 3) := by decide +kernel
theorem dX10_kind_11 : decode cX10_kind 11 = .ok (.aload_n 0, 1) := by decide +kernel
theorem dX10_kind_12 : decode cX10_kind 12 = .ok (.getfield 9, 3) := by decide +kernel
theorem dX10_kind_15 : decode cX10_kind 15 = .ok (.getfield 23, 3) := by decide +kernel
theorem dX10_kind_18 : decode cX10_kind 18 = .ok (.if_icmp .ge 22, 3) := by decide +kernel
theorem dX10_kind_21 : decode cX10_kind 21 = .ok (.aload_n 0, 1) := by decide +kernel
theorem dX10_kind_22 : decode cX10_kind 22 = .ok (.getfield 19, 3) := by decide +kernel
theorem dX10_kind_25 : decode cX10_kind 25 = .ok (.aload_n 0, 1) := by decide +kernel
theorem dX10_kind_26 : decode cX10_kind 26 = .ok (.getfield 9, 3) := by decide +kernel
theorem dX10_kind_29 : decode cX10_kind 29 = .ok (.getfield 28, 3) := by decide +kernel
theorem dX10_kind_32 : decode cX10_kind 32 = .ok (.arraylength, 1) := by decide +kernel
theorem dX10_kind_33 : decode cX10_kind 33 = .ok (.if_icmp .ge 7, 3) := by decide +kernel
theorem dX10_kind_36 : decode cX10_kind 36 = .ok (.iconst 1, 1) := by decide +kernel
theorem dX10_kind_37 : decode cX10_kind 37 = .ok (.goto 4, 3) := by decide +kernel
theorem dX10_kind_40 : decode cX10_kind 40 = .ok (.iconst 0, 1) := by decide +kernel
theorem dX10_kind_41 : decode cX10_kind 41 = .ok (.istore_n 1, 1) := by decide +kernel
theorem dX10_kind_42 : decode cX10_kind 42 = .ok (.iload_n 1, 1) := by decide +kernel
theorem dX10_kind_43 : decode cX10_kind 43 = .ok (.ifCond .eq 18, 3) := by decide +kernel
theorem dX10_kind_46 : decode cX10_kind 46 = .ok (.aload_n 0, 1) := by decide +kernel
theorem dX10_kind_47 : decode cX10_kind 47 = .ok (.getfield 9, 3) := by decide +kernel
theorem dX10_kind_50 : decode cX10_kind 50 = .ok (.getfield 28, 3) := by decide +kernel
theorem dX10_kind_53 : decode cX10_kind 53 = .ok (.aload_n 0, 1) := by decide +kernel
theorem dX10_kind_54 : decode cX10_kind 54 = .ok (.getfield 19, 3) := by decide +kernel
theorem dX10_kind_57 : decode cX10_kind 57 = .ok (.iaload, 1) := by decide +kernel
theorem dX10_kind_58 : decode cX10_kind 58 = .ok (.goto 4, 3) := by decide +kernel
theorem dX10_kind_61 : decode cX10_kind 61 = .ok (.iconst 0, 1) := by decide +kernel
theorem dX10_kind_62 : decode cX10_kind 62 = .ok (.ireturn, 1) := by decide +kernel
theorem dX10_take_0 : decode cX10_take 0 = .ok (.aload_n 0, 1) := by decide +kernel
theorem dX10_take_1 : decode cX10_take 1 = .ok (.invokevirtual 32, 3) := by decide +kernel
theorem dX10_take_4 : decode cX10_take 4 = .ok (.iload_n 1, 1) := by decide +kernel
theorem dX10_take_5 : decode cX10_take 5 = .ok (.if_icmp .eq 5, 3) := by decide +kernel
theorem dX10_take_8 : decode cX10_take 8 = .ok (.iconst 0, 1) := by decide +kernel
theorem dX10_take_9 : decode cX10_take 9 = .ok (.ireturn, 1) := by decide +kernel
theorem dX10_take_10 : decode cX10_take 10 = .ok (.aload_n 0, 1) := by decide +kernel
theorem dX10_take_11 : decode cX10_take 11 = .ok (.dup, 1) := by decide +kernel
theorem dX10_take_12 : decode cX10_take 12 = .ok (.getfield 19, 3) := by decide +kernel
theorem dX10_take_15 : decode cX10_take 15 = .ok (.iconst 1, 1) := by decide +kernel
theorem dX10_take_16 : decode cX10_take 16 = .ok (.iadd, 1) := by decide +kernel
theorem dX10_take_17 : decode cX10_take 17 = .ok (.putfield 19, 3) := by decide +kernel
theorem dX10_take_20 : decode cX10_take 20 = .ok (.iconst 1, 1) := by decide +kernel
theorem dX10_take_21 : decode cX10_take 21 = .ok (.ireturn, 1) := by decide +kernel
theorem dX11_init_0 : decode cX11_init 0 = .ok (.aload_n 0, 1) := by decide +kernel
theorem dX11_init_1 : decode cX11_init 1 = .ok (.invokespecial 3, 3) := by decide +kernel
theorem dX11_init_4 : decode cX11_init 4 = .ok (.aload_n 0, 1) := by decide +kernel
theorem dX11_init_5 : decode cX11_init 5 = .ok (.new 9, 3) := by decide +kernel
theorem dX11_init_8 : decode cX11_init 8 = .ok (.dup, 1) := by decide +kernel
theorem dX11_init_9 : decode cX11_init 9 = .ok (.invokespecial 11, 3) := by decide +kernel
theorem dX11_init_12 : decode cX11_init 12 = .ok (.putfield 12, 3) := by decide +kernel
theorem dX11_init_15 : decode cX11_init 15 = .ok (.aload_n 0, 1) := by decide +kernel
theorem dX11_init_16 : decode cX11_init 16 = .ok (.new 16, 3) := by decide +kernel
theorem dX11_init_19 : decode cX11_init 19 = .ok (.dup, 1) := by decide +kernel
theorem dX11_init_20 : decode cX11_init 20 = .ok (.invokespecial 18, 3) := by decide +kernel
theorem dX11_init_23 : decode cX11_init 23 = .ok (.putfield 19, 3) := by decide +kernel
theorem dX11_init_26 : decode cX11_init 26 = .ok (.aload_n 0, 1) := by decide +kernel
theorem dX11_init_27 : decode cX11_init 27 = .ok (.new 23, 3) := by decide +kernel
theorem dX11_init_30 : decode cX11_init 30 = .ok (.dup, 1) := by decide +kernel
theorem dX11_init_31 : decode cX11_init 31 = .ok (.aload_n 0, 1) := by decide +kernel
theorem dX11_init_32 : decode cX11_init 32 = .ok (.getfield 12, 3) := by decide +kernel
theorem dX11_init_35 : decode cX11_init 35 = .ok (.aload_n 0, 1) := by decide +kernel
theorem dX11_init_36 : decode cX11_init 36 = .ok (.getfield 19, 3) := by decide +kernel
theorem dX11_init_39 : decode cX11_init 39 = .ok (.invokespecial 25, 3) := by decide +kernel
theorem dX11_init_42 : decode cX11_init 42 = .ok (.putfield 28, 3) := by decide +kernel
theorem dX11_init_45 : decode cX11_init 45 = .ok (.aload_n 0, 1) := by decide +kernel
theorem dX11_init_46 : decode cX11_init 46 = .ok (.new 32, 3) := by decide +kernel
theorem dX11_init_49 : decode cX11_init 49 = .ok (.dup, 1) := by decide +kernel
theorem dX11_init_50 : decode cX11_init 50 = .ok (.aload_n 0, 1) := by decide +kernel
theorem dX11_init_51 : decode cX11_init 51 = .ok (.getfield 12, 3) := by decide +kernel
theorem dX11_init_54 : decode cX11_init 54 = .ok (.aload_n 0, 1) := by decide +kernel
theorem dX11_init_55 : decode cX11_init 55 = .ok (.getfield 28, 3) := by decide +kernel
theorem dX11_init_58 : decode cX11_init 58 = .ok (.invokespecial 34, 3) := by decide +kernel
theorem dX11_init_61 : decode cX11_init 61 = .ok (.putfield 37, 3) := by decide +kernel
theorem dX11_init_64 : decode cX11_init 64 = .ok (.aload_n 0, 1) := by decide +kernel
theorem dX11_init_65 : decode cX11_init 65 = .ok (.new 41, 3) := by decide +kernel
theorem dX11_init_68 : decode cX11_init 68 = .ok (.dup, 1) := by decide +kernel
theorem dX11_init_69 : decode cX11_init 69 = .ok (.aload_n 0, 1) := by decide +kernel
theorem dX11_init_70 : decode cX11_init 70 = .ok (.getfield 12, 3) := by decide +kernel
theorem dX11_init_73 : decode cX11_init 73 = .ok (.aload_n 0, 1) := by decide +kernel
theorem dX11_init_74 : decode cX11_init 74 = .ok (.getfield 28, 3) := by decide +kernel
theorem dX11_init_77 : decode cX11_init 77 = .ok (.aload_n 0, 1) := by decide +kernel
theorem dX11_init_78 : decode cX11_init 78 = .ok (.getfield 19, 3) := by decide +kernel
theorem dX11_init_81 : decode cX11_init 81 = .ok (.aload_n 0, 1) := by decide +kernel
theorem dX11_init_82 : decode cX11_init 82 = .ok (.getfield 37, 3) := by decide +kernel
theorem dX11_init_85 : decode cX11_init 85 = .ok (.invokespecial 43, 3) := by decide +kernel
theorem dX11_init_88 : decode cX11_init 88 = .ok (.putfield 46, 3) := by decide +kernel
theorem dX11_init_91 : decode cX11_init 91 = .ok (.aload_n 0, 1) := by decide +kernel
theorem dX11_init_92 : decode cX11_init 92 = .ok (.new 50, 3) := by decide +kernel
theorem dX11_init_95 : decode cX11_init 95 = .ok (.dup, 1) := by decide +kernel
theorem dX11_init_96 : decode cX11_init 96 = .ok (.invokespecial 52, 3) := by decide +kernel
theorem dX11_init_99 : decode cX11_init 99 = .ok (.putfield 53, 3) := by decide +kernel
theorem dX11_init_102 : decode cX11_init 102 = .ok (.aload_n 0, 1) := by decide +kernel
theorem dX11_init_103 : decode cX11_init 103 = .ok (.new 50, 3) := by decide +kernel
theorem dX11_init_106 : decode cX11_init 106 = .ok (.dup, 1) := by decide +kernel
theorem dX11_init_107 : decode cX11_init 107 = .ok (.invokespecial 52, 3) := by decide +kernel
theorem dX11_init_110 : decode cX11_init 110 = .ok (.putfield 57, 3) := by decide +kernel
theorem dX11_init_113 : decode cX11_init 113 = .ok (.aload_n 0, 1) := by decide +kernel
theorem dX11_init_114 : decode cX11_init 114 = .ok (.new 60, 3) := by decide +kernel
theorem dX11_init_117 : decode cX11_init 117 = .ok (.dup, 1) := by decide +kernel
theorem dX11_init_118 : decode cX11_init 118 = .ok (.invokespecial 62, 3) := by decide +kernel
theorem dX11_init_121 : decode cX11_init 121 = .ok (.putfield 63, 3) := by decide +kernel
theorem dX11_init_124 : decode cX11_init 124 = .ok (.aload_n 0, 1) := by decide +kernel
theorem dX11_init_125 : decode cX11_init 125 = .ok (.new 67, 3) := by decide +kernel
theorem dX11_init_128 : decode cX11_init 128 = .ok (.dup, 1) := by decide +kernel
theorem dX11_init_129 : decode cX11_init 129 = .ok (.invokespecial 69, 3) := by decide +kernel
theorem dX11_init_132 : decode cX11_init 132 = .ok (.putfield 70, 3) := by decide +kernel
theorem dX11_init_135 : decode cX11_init 135 = .ok (.aload_n 0, 1) := by decide +kernel
theorem dX11_init_136 : decode cX11_init 136 = .ok (.new 74, 3) := by decide +kernel
theorem dX11_init_139 : decode cX11_init 139 = .ok (.dup, 1) := by decide +kernel
theorem dX11_init_140 : decode cX11_init 140 = .ok (.invokespecial 76, 3) := by decide +kernel
theorem dX11_init_143 : decode cX11_init 143 = .ok (.putfield 77, 3) := by decide +kernel
theorem dX11_init_146 : decode cX11_init 146 = .ok (.aload_n 0, 1) := by decide +kernel
theorem dX11_init_147 : decode cX11_init 147 = .ok (.getfield 53, 3) := by decide +kernel
theorem dX11_init_150 : decode cX11_init 150 = .ok (.invokevirtual 81, 3) := by decide +kernel
theorem dX11_init_153 : decode cX11_init 153 = .ok (.return_, 1) := by decide +kernel
theorem dX11_feed_0 : decode cX11_feed 0 = .ok (.aload_n 0, 1) := by decide +kernel
theorem dX11_feed_1 : decode cX11_feed 1 = .ok (.getfield 12, 3) := by decide +kernel
theorem dX11_feed_4 : decode cX11_feed 4 = .ok (.getfield 84, 3) := by decide +kernel
theorem dX11_feed_7 : decode cX11_feed 7 = .ok (.bipush 20, 2) := by decide +kernel
theorem dX11_feed_9 : decode cX11_feed 9 = .ok (.iadd, 1) := by decide +kernel
theorem dX11_feed_10 : decode cX11_feed 10 = .ok (.sipush 2000, 3) := by decide +kernel
theorem dX11_feed_13 : decode cX11_feed 13 = .ok (.if_icmp .le 13, 3) := by decide +kernel
theorem dX11_feed_16 : decode cX11_feed 16 = .ok (.new 88, 3) := by decide +kernel
theorem dX11_feed_19 : decode cX11_feed 19 = .ok (.dup, 1) := by decide +kernel
theorem dX11_feed_20 : decode cX11_feed 20 = .ok (.ldc 90, 2) := by decide +kernel
theorem dX11_feed_22 : decode cX11_feed 22 = .ok (.invokespecial 92, 3) := by decide +kernel
theorem dX11_feed_25 : decode cX11_feed 25 = .ok (.athrow, 1) := by decide +kernel
theorem dX11_feed_26 : decode cX11_feed 26 = .ok (.aload_n 0, 1) := by decide +kernel
theorem dX11_feed_27 : decode cX11_feed 27 = .ok (.getfield 12, 3) := by decide +kernel
theorem dX11_feed_30 : decode cX11_feed 30 = .ok (.iload_n 1, 1) := by decide +kernel
theorem dX11_feed_31 : decode cX11_feed 31 = .ok (.invokevirtual 95, 3) := by decide +kernel
theorem dX11_feed_34 : decode cX11_feed 34 = .ok (.aload_n 0, 1) := by decide +kernel
theorem dX11_feed_35 : decode cX11_feed 35 = .ok (.getfield 12, 3) := by decide +kernel
theorem dX11_feed_38 : decode cX11_feed 38 = .ok (.iload_n 2, 1) := by decide +kernel
theorem dX11_feed_39 : decode cX11_feed 39 = .ok (.invokevirtual 95, 3) := by decide +kernel
theorem dX11_feed_42 : decode cX11_feed 42 = .ok (.aload_n 0, 1) := by decide +kernel
theorem dX11_feed_43 : decode cX11_feed 43 = .ok (.getfield 12, 3) := by decide +kernel
theorem dX11_feed_46 : decode cX11_feed 46 = .ok (.iload_n 3, 1) := by decide +kernel
theorem dX11_feed_47 : decode cX11_feed 47 = .ok (.invokevirtual 95, 3) := by decide +kernel
theorem dX11_feed_50 : decode cX11_feed 50 = .ok (.aload_n 0, 1) := by decide +kernel
theorem dX11_feed_51 : decode cX11_feed 51 = .ok (.getfield 12, 3) := by decide +kernel
theorem dX11_feed_54 : decode cX11_feed 54 = .ok (.iload 4, 2) := by decide +kernel
theorem dX11_feed_56 : decode cX11_feed 56 = .ok (.invokevirtual 95, 3) := by decide +kernel
theorem dX11_feed_59 : decode cX11_feed 59 = .ok (.aload_n 0, 1) := by decide +kernel
theorem dX11_feed_60 : decode cX11_feed 60 = .ok (.getfield 12, 3) := by decide +kernel
theorem dX11_feed_63 : decode cX11_feed 63 = .ok (.iload 5, 2) := by decide +kernel
theorem dX11_feed_65 : decode cX11_feed 65 = .ok (.invokevirtual 95, 3) := by decide +kernel
theorem dX11_feed_68 : decode cX11_feed 68 = .ok (.aload_n 0, 1) := by decide +kernel
theorem dX11_feed_69 : decode cX11_feed 69 = .ok (.getfield 63, 3) := by decide +kernel
theorem dX11_feed_72 : decode cX11_feed 72 = .ok (.invokevirtual 99, 3) := by decide +kernel
theorem dX11_feed_75 : decode cX11_feed 75 = .ok (.aload_n 0, 1) := by decide +kernel
theorem dX11_feed_76 : decode cX11_feed 76 = .ok (.getfield 12, 3) := by decide +kernel
theorem dX11_feed_79 : decode cX11_feed 79 = .ok (.getfield 84, 3) := by decide +kernel
theorem dX11_feed_82 : decode cX11_feed 82 = .ok (.ireturn, 1) := by decide +kernel
theorem dX11_trim_0 : decode cX11_trim 0 = .ok (.iload_n 1, 1) := by decide +kernel
theorem dX11_trim_1 : decode cX11_trim 1 = .ok (.ifCond .lt 14, 3) := by decide +kernel
theorem dX11_trim_4 : decode cX11_trim 4 = .ok (.iload_n 1, 1) := by decide +kernel
theorem dX11_trim_5 : decode cX11_trim 5 = .ok (.aload_n 0, 1) := by decide +kernel
theorem dX11_trim_6 : decode cX11_trim 6 = .ok (.getfield 12, 3) := by decide +kernel
theorem dX11_trim_9 : decode cX11_trim 9 = .ok (.getfield 84, 3) := by decide +kernel
theorem dX11_trim_12 : decode cX11_trim 12 = .ok (.if_icmp .le 13, 3) := by decide +kernel
theorem dX11_trim_15 : decode cX11_trim 15 = .ok (.new 102, 3) := by decide +kernel
theorem dX11_trim_18 : decode cX11_trim 18 = .ok (.dup, 1) := by decide +kernel
theorem dX11_trim_19 : decode cX11_trim 19 = .ok (.ldc 104, 2) := by decide +kernel
theorem dX11_trim_21 : decode cX11_trim 21 = .ok (.invokespecial 106, 3) := by decide +kernel
theorem dX11_trim_24 : decode cX11_trim 24 = .ok (.athrow, 1) := by decide +kernel
theorem dX11_trim_25 : decode cX11_trim 25 = .ok (.aload_n 0, 1) := by decide +kernel
theorem dX11_trim_26 : decode cX11_trim 26 = .ok (.getfield 12, 3) := by decide +kernel
theorem dX11_trim_29 : decode cX11_trim 29 = .ok (.iload_n 1, 1) := by decide +kernel
theorem dX11_trim_30 : decode cX11_trim 30 = .ok (.putfield 84, 3) := by decide +kernel
theorem dX11_trim_33 : decode cX11_trim 33 = .ok (.aload_n 0, 1) := by decide +kernel
theorem dX11_trim_34 : decode cX11_trim 34 = .ok (.getfield 63, 3) := by decide +kernel
theorem dX11_trim_37 : decode cX11_trim 37 = .ok (.invokevirtual 99, 3) := by decide +kernel
theorem dX11_trim_40 : decode cX11_trim 40 = .ok (.iload_n 1, 1) := by decide +kernel
theorem dX11_trim_41 : decode cX11_trim 41 = .ok (.ireturn, 1) := by decide +kernel
theorem dX11_assemble_0 : decode cX11_assemble 0 = .ok (.aload_n 0, 1) := by decide +kernel
theorem dX11_assemble_1 : decode cX11_assemble 1 = .ok (.getfield 12, 3) := by decide +kernel
theorem dX11_assemble_4 : decode cX11_assemble 4 = .ok (.invokevirtual 107, 3) := by decide +kernel
theorem dX11_assemble_7 : decode cX11_assemble 7 = .ok (.aload_n 0, 1) := by decide +kernel
theorem dX11_assemble_8 : decode cX11_assemble 8 = .ok (.getfield 19, 3) := by decide +kernel
theorem dX11_assemble_11 : decode cX11_assemble 11 = .ok (.invokevirtual 110, 3) := by decide +kernel
theorem dX11_assemble_14 : decode cX11_assemble 14 = .ok (.aload_n 0, 1) := by decide +kernel
theorem dX11_assemble_15 : decode cX11_assemble 15 = .ok (.getfield 46, 3) := by decide +kernel
theorem dX11_assemble_18 : decode cX11_assemble 18 = .ok (.invokevirtual 113, 3) := by decide +kernel
theorem dX11_assemble_21 : decode cX11_assemble 21 = .ok (.aload_n 0, 1) := by decide +kernel
theorem dX11_assemble_22 : decode cX11_assemble 22 = .ok (.getfield 37, 3) := by decide +kernel
theorem dX11_assemble_25 : decode cX11_assemble 25 = .ok (.invokevirtual 114, 3) := by decide +kernel
theorem dX11_assemble_28 : decode cX11_assemble 28 = .ok (.istore_n 1, 1) := by decide +kernel
theorem dX11_assemble_29 : decode cX11_assemble 29 = .ok (.iload_n 1, 1) := by decide +kernel
theorem dX11_assemble_30 : decode cX11_assemble 30 = .ok (.ifCond .lt 15, 3) := by decide +kernel
theorem dX11_assemble_33 : decode cX11_assemble 33 = .ok (.aload_n 0, 1) := by decide +kernel
theorem dX11_assemble_34 : decode cX11_assemble 34 = .ok (.getfield 46, 3) := by decide +kernel
theorem dX11_assemble_37 : decode cX11_assemble 37 = .ok (.iconst 1, 1) := by decide +kernel
theorem dX11_assemble_38 : decode cX11_assemble 38 = .ok (.iload_n 1, 1) := by decide +kernel
theorem dX11_assemble_39 : decode cX11_assemble 39 = .ok (.invokevirtual 118, 3) := by decide +kernel
theorem dX11_assemble_42 : decode cX11_assemble 42 = .ok (.goto 10, 3) := by decide +kernel
theorem dX11_assemble_45 : decode cX11_assemble 45 = .ok (.aload_n 0, 1) := by decide +kernel
theorem dX11_assemble_46 : decode cX11_assemble 46 = .ok (.getfield 46, 3) := by decide +kernel
theorem dX11_assemble_49 : decode cX11_assemble 49 = .ok (.invokevirtual 122, 3) := by decide +kernel
theorem dX11_assemble_52 : decode cX11_assemble 52 = .ok (.aload_n 0, 1) := by decide +kernel
theorem dX11_assemble_53 : decode cX11_assemble 53 = .ok (.getfield 46, 3) := by decide +kernel
theorem dX11_assemble_56 : decode cX11_assemble 56 = .ok (.getfield 125, 3) := by decide +kernel
theorem dX11_assemble_59 : decode cX11_assemble 59 = .ok (.ifCond .ne 10, 3) := by decide +kernel
theorem dX11_assemble_62 : decode cX11_assemble 62 = .ok (.aload_n 0, 1) := by decide +kernel
theorem dX11_assemble_63 : decode cX11_assemble 63 = .ok (.getfield 46, 3) := by decide +kernel
theorem dX11_assemble_66 : decode cX11_assemble 66 = .ok (.invokevirtual 128, 3) := by decide +kernel
theorem dX11_assemble_69 : decode cX11_assemble 69 = .ok (.aload_n 0, 1) := by decide +kernel
theorem dX11_assemble_70 : decode cX11_assemble 70 = .ok (.getfield 12, 3) := by decide +kernel
theorem dX11_assemble_73 : decode cX11_assemble 73 = .ok (.iconst 0, 1) := by decide +kernel
theorem dX11_assemble_74 : decode cX11_assemble 74 = .ok (.putfield 84, 3) := by decide +kernel
theorem dX11_assemble_77 : decode cX11_assemble 77 = .ok (.aload_n 0, 1) := by decide +kernel
theorem dX11_assemble_78 : decode cX11_assemble 78 = .ok (.getfield 63, 3) := by decide +kernel
theorem dX11_assemble_81 : decode cX11_assemble 81 = .ok (.invokevirtual 99, 3) := by decide +kernel
theorem dX11_assemble_84 : decode cX11_assemble 84 = .ok (.aload_n 0, 1) := by decide +kernel
theorem dX11_assemble_85 : decode cX11_assemble 85 = .ok (.getfield 46, 3) := by decide +kernel
theorem dX11_assemble_88 : decode cX11_assemble 88 = .ok (.getfield 125, 3) := by decide +kernel
theorem dX11_assemble_91 : decode cX11_assemble 91 = .ok (.ifCond .ne 7, 3) := by decide +kernel
theorem dX11_assemble_94 : decode cX11_assemble 94 = .ok (.aload_n 0, 1) := by decide +kernel
theorem dX11_assemble_95 : decode cX11_assemble 95 = .ok (.invokevirtual 131, 3) := by decide +kernel
theorem dX11_assemble_98 : decode cX11_assemble 98 = .ok (.aload_n 0, 1) := by decide +kernel
theorem dX11_assemble_99 : decode cX11_assemble 99 = .ok (.getfield 46, 3) := by decide +kernel
theorem dX11_assemble_102 : decode cX11_assemble 102 = .ok (.getfield 125, 3) := by decide +kernel
theorem dX11_assemble_105 : decode cX11_assemble 105 = .ok (.ireturn, 1) := by decide +kernel
theorem dX11_takeOver_0 : decode cX11_takeOver 0 = .ok (.aload_n 0, 1) := by decide +kernel
theorem dX11_takeOver_1 : decode cX11_takeOver 1 = .ok (.getfield 46, 3) := by decide +kernel
theorem dX11_takeOver_4 : decode cX11_takeOver 4 = .ok (.invokevirtual 134, 3) := by decide +kernel
theorem dX11_takeOver_7 : decode cX11_takeOver 7 = .ok (.aload_n 0, 1) := by decide +kernel
theorem dX11_takeOver_8 : decode cX11_takeOver 8 = .ok (.getfield 19, 3) := by decide +kernel
theorem dX11_takeOver_11 : decode cX11_takeOver 11 = .ok (.invokevirtual 137, 3) := by decide +kernel
theorem dX11_takeOver_14 : decode cX11_takeOver 14 = .ok (.aload_n 0, 1) := by decide +kernel
theorem dX11_takeOver_15 : decode cX11_takeOver 15 = .ok (.getfield 46, 3) := by decide +kernel
theorem dX11_takeOver_18 : decode cX11_takeOver 18 = .ok (.getfield 140, 3) := by decide +kernel
theorem dX11_takeOver_21 : decode cX11_takeOver 21 = .ok (.iconst 0, 1) := by decide +kernel
theorem dX11_takeOver_22 : decode cX11_takeOver 22 = .ok (.aload_n 0, 1) := by decide +kernel
theorem dX11_takeOver_23 : decode cX11_takeOver 23 = .ok (.getfield 53, 3) := by decide +kernel
theorem dX11_takeOver_26 : decode cX11_takeOver 26 = .ok (.getfield 144, 3) := by decide +kernel
theorem dX11_takeOver_29 : decode cX11_takeOver 29 = .ok (.iconst 0, 1) := by decide +kernel
theorem dX11_takeOver_30 : decode cX11_takeOver 30 = .ok (.sipush 11008, 3) := by decide +kernel
theorem dX11_takeOver_33 : decode cX11_takeOver 33 = .ok (.invokestatic 147, 3) := by decide +kernel
theorem dX11_takeOver_36 : decode cX11_takeOver 36 = .ok (.aload_n 0, 1) := by decide +kernel
theorem dX11_takeOver_37 : decode cX11_takeOver 37 = .ok (.getfield 70, 3) := by decide +kernel
theorem dX11_takeOver_40 : decode cX11_takeOver 40 = .ok (.invokevirtual 153, 3) := by decide +kernel
theorem dX11_takeOver_43 : decode cX11_takeOver 43 = .ok (.aload_n 0, 1) := by decide +kernel
theorem dX11_takeOver_44 : decode cX11_takeOver 44 = .ok (.getfield 53, 3) := by decide +kernel
theorem dX11_takeOver_47 : decode cX11_takeOver 47 = .ok (.invokevirtual 81, 3) := by decide +kernel
theorem dX11_takeOver_50 : decode cX11_takeOver 50 = .ok (.return_, 1) := by decide +kernel
theorem dX11_errorAt_0 : decode cX11_errorAt 0 = .ok (.aload_n 0, 1) := by decide +kernel
theorem dX11_errorAt_1 : decode cX11_errorAt 1 = .ok (.getfield 46, 3) := by decide +kernel
theorem dX11_errorAt_4 : decode cX11_errorAt 4 = .ok (.getfield 154, 3) := by decide +kernel
theorem dX11_errorAt_7 : decode cX11_errorAt 7 = .ok (.ireturn, 1) := by decide +kernel
theorem dX11_names_0 : decode cX11_names 0 = .ok (.aload_n 0, 1) := by decide +kernel
theorem dX11_names_1 : decode cX11_names 1 = .ok (.getfield 19, 3) := by decide +kernel
theorem dX11_names_4 : decode cX11_names 4 = .ok (.getfield 157, 3) := by decide +kernel
theorem dX11_names_7 : decode cX11_names 7 = .ok (.ireturn, 1) := by decide +kernel
theorem dX11_valueOf_0 : decode cX11_valueOf 0 = .ok (.iload_n 1, 1) := by decide +kernel
theorem dX11_valueOf_1 : decode cX11_valueOf 1 = .ok (.ifCond .lt 14, 3) := by decide +kernel
theorem dX11_valueOf_4 : decode cX11_valueOf 4 = .ok (.iload_n 1, 1) := by decide +kernel
theorem dX11_valueOf_5 : decode cX11_valueOf 5 = .ok (.aload_n 0, 1) := by decide +kernel
theorem dX11_valueOf_6 : decode cX11_valueOf 6 = .ok (.getfield 19, 3) := by decide +kernel
theorem dX11_valueOf_9 : decode cX11_valueOf 9 = .ok (.getfield 157, 3) := by decide +kernel
theorem dX11_valueOf_12 : decode cX11_valueOf 12 = .ok (.if_icmp .lt 13, 3) := by decide +kernel
theorem dX11_valueOf_15 : decode cX11_valueOf 15 = .ok (.new 160, 3) := by decide +kernel
theorem dX11_valueOf_18 : decode cX11_valueOf 18 = .ok (.dup, 1) := by decide +kernel
theorem dX11_valueOf_19 : decode cX11_valueOf 19 = .ok (.ldc 162, 2) := by decide +kernel
theorem dX11_valueOf_21 : decode cX11_valueOf 21 = .ok (.invokespecial 164, 3) := by decide +kernel
theorem dX11_valueOf_24 : decode cX11_valueOf 24 = .ok (.athrow, 1) := by decide +kernel
theorem dX11_valueOf_25 : decode cX11_valueOf 25 = .ok (.aload_n 0, 1) := by decide +kernel
theorem dX11_valueOf_26 : decode cX11_valueOf 26 = .ok (.getfield 19, 3) := by decide +kernel
theorem dX11_valueOf_29 : decode cX11_valueOf 29 = .ok (.getfield 165, 3) := by decide +kernel
theorem dX11_valueOf_32 : decode cX11_valueOf 32 = .ok (.iload_n 1, 1) := by decide +kernel
theorem dX11_valueOf_33 : decode cX11_valueOf 33 = .ok (.invokestatic 168, 3) := by decide +kernel
theorem dX11_valueOf_36 : decode cX11_valueOf 36 = .ok (.ireturn, 1) := by decide +kernel
theorem dX11_nameNear_0 : decode cX11_nameNear 0 = .ok (.iload_n 1, 1) := by decide +kernel
theorem dX11_nameNear_1 : decode cX11_nameNear 1 = .ok (.invokestatic 172, 3) := by decide +kernel
theorem dX11_nameNear_4 : decode cX11_nameNear 4 = .ok (.ifCond .eq 13, 3) := by decide +kernel
theorem dX11_nameNear_7 : decode cX11_nameNear 7 = .ok (.new 102, 3) := by decide +kernel
theorem dX11_nameNear_10 : decode cX11_nameNear 10 = .ok (.dup, 1) := by decide +kernel
theorem dX11_nameNear_11 : decode cX11_nameNear 11 = .ok (.ldc 176, 2) := by decide +kernel
theorem dX11_nameNear_13 : decode cX11_nameNear 13 = .ok (.invokespecial 106, 3) := by decide +kernel
theorem dX11_nameNear_16 : decode cX11_nameNear 16 = .ok (.athrow, 1) := by decide +kernel
theorem dX11_nameNear_17 : decode cX11_nameNear 17 = .ok (.aload_n 0, 1) := by decide +kernel
theorem dX11_nameNear_18 : decode cX11_nameNear 18 = .ok (.getfield 19, 3) := by decide +kernel
theorem dX11_nameNear_21 : decode cX11_nameNear 21 = .ok (.iload_n 1, 1) := by decide +kernel
theorem dX11_nameNear_22 : decode cX11_nameNear 22 = .ok (.invokevirtual 178, 3) := by decide +kernel
theorem dX11_nameNear_25 : decode cX11_nameNear 25 = .ok (.ireturn, 1) := by decide +kernel
theorem dX11_lineOf_0 : decode cX11_lineOf 0 = .ok (.iload_n 1, 1) := by decide +kernel
theorem dX11_lineOf_1 : decode cX11_lineOf 1 = .ok (.invokestatic 172, 3) := by decide +kernel
theorem dX11_lineOf_4 : decode cX11_lineOf 4 = .ok (.ifCond .eq 13, 3) := by decide +kernel
theorem dX11_lineOf_7 : decode cX11_lineOf 7 = .ok (.new 102, 3) := by decide +kernel
theorem dX11_lineOf_10 : decode cX11_lineOf 10 = .ok (.dup, 1) := by decide +kernel
theorem dX11_lineOf_11 : decode cX11_lineOf 11 = .ok (.ldc 176, 2) := by decide +kernel
theorem dX11_lineOf_13 : decode cX11_lineOf 13 = .ok (.invokespecial 106, 3) := by decide +kernel
theorem dX11_lineOf_16 : decode cX11_lineOf 16 = .ok (.athrow, 1) := by decide +kernel
theorem dX11_lineOf_17 : decode cX11_lineOf 17 = .ok (.aload_n 0, 1) := by decide +kernel
theorem dX11_lineOf_18 : decode cX11_lineOf 18 = .ok (.getfield 46, 3) := by decide +kernel
theorem dX11_lineOf_21 : decode cX11_lineOf 21 = .ok (.getfield 182, 3) := by decide +kernel
theorem dX11_lineOf_24 : decode cX11_lineOf 24 = .ok (.iload_n 1, 1) := by decide +kernel
theorem dX11_lineOf_25 : decode cX11_lineOf 25 = .ok (.aload_n 0, 1) := by decide +kernel
theorem dX11_lineOf_26 : decode cX11_lineOf 26 = .ok (.getfield 53, 3) := by decide +kernel
theorem dX11_lineOf_29 : decode cX11_lineOf 29 = .ok (.getfield 185, 3) := by decide +kernel
theorem dX11_lineOf_32 : decode cX11_lineOf 32 = .ok (.getfield 189, 3) := by decide +kernel
theorem dX11_lineOf_35 : decode cX11_lineOf 35 = .ok (.invokestatic 194, 3) := by decide +kernel
theorem dX11_lineOf_38 : decode cX11_lineOf 38 = .ok (.invokestatic 168, 3) := by decide +kernel
theorem dX11_lineOf_41 : decode cX11_lineOf 41 = .ok (.istore_n 2, 1) := by decide +kernel
theorem dX11_lineOf_42 : decode cX11_lineOf 42 = .ok (.iload_n 2, 1) := by decide +kernel
theorem dX11_lineOf_43 : decode cX11_lineOf 43 = .ok (.ifCond .le 7, 3) := by decide +kernel
theorem dX11_lineOf_46 : decode cX11_lineOf 46 = .ok (.iload_n 2, 1) := by decide +kernel
theorem dX11_lineOf_47 : decode cX11_lineOf 47 = .ok (.goto 4, 3) := by decide +kernel
theorem dX11_lineOf_50 : decode cX11_lineOf 50 = .ok (.iconst (-1), 1) := by decide +kernel
theorem dX11_lineOf_51 : decode cX11_lineOf 51 = .ok (.ireturn, 1) := by decide +kernel
theorem dX11_reset_0 : decode cX11_reset 0 = .ok (.aload_n 0, 1) := by decide +kernel
theorem dX11_reset_1 : decode cX11_reset 1 = .ok (.getfield 63, 3) := by decide +kernel
theorem dX11_reset_4 : decode cX11_reset 4 = .ok (.invokevirtual 99, 3) := by decide +kernel
theorem dX11_reset_7 : decode cX11_reset 7 = .ok (.aload_n 0, 1) := by decide +kernel
theorem dX11_reset_8 : decode cX11_reset 8 = .ok (.getfield 70, 3) := by decide +kernel
theorem dX11_reset_11 : decode cX11_reset 11 = .ok (.iconst 0, 1) := by decide +kernel
theorem dX11_reset_12 : decode cX11_reset 12 = .ok (.putfield 198, 3) := by decide +kernel
theorem dX11_reset_15 : decode cX11_reset 15 = .ok (.aload_n 0, 1) := by decide +kernel
theorem dX11_reset_16 : decode cX11_reset 16 = .ok (.getfield 53, 3) := by decide +kernel
theorem dX11_reset_19 : decode cX11_reset 19 = .ok (.invokevirtual 81, 3) := by decide +kernel
theorem dX11_reset_22 : decode cX11_reset 22 = .ok (.aload_n 0, 1) := by decide +kernel
theorem dX11_reset_23 : decode cX11_reset 23 = .ok (.getfield 53, 3) := by decide +kernel
theorem dX11_reset_26 : decode cX11_reset 26 = .ok (.getfield 201, 3) := by decide +kernel
theorem dX11_reset_29 : decode cX11_reset 29 = .ok (.ireturn, 1) := by decide +kernel
theorem dX11_key_0 : decode cX11_key 0 = .ok (.iload_n 1, 1) := by decide +kernel
theorem dX11_key_1 : decode cX11_key 1 = .ok (.invokestatic 204, 3) := by decide +kernel
theorem dX11_key_4 : decode cX11_key 4 = .ok (.ifCond .eq 13, 3) := by decide +kernel
theorem dX11_key_7 : decode cX11_key 7 = .ok (.new 102, 3) := by decide +kernel
theorem dX11_key_10 : decode cX11_key 10 = .ok (.dup, 1) := by decide +kernel
theorem dX11_key_11 : decode cX11_key 11 = .ok (.ldc 207, 2) := by decide +kernel
theorem dX11_key_13 : decode cX11_key 13 = .ok (.invokespecial 106, 3) := by decide +kernel
theorem dX11_key_16 : decode cX11_key 16 = .ok (.athrow, 1) := by decide +kernel
theorem dX11_key_17 : decode cX11_key 17 = .ok (.aload_n 0, 1) := by decide +kernel
theorem dX11_key_18 : decode cX11_key 18 = .ok (.getfield 53, 3) := by decide +kernel
theorem dX11_key_21 : decode cX11_key 21 = .ok (.getfield 185, 3) := by decide +kernel
theorem dX11_key_24 : decode cX11_key 24 = .ok (.getfield 209, 3) := by decide +kernel
theorem dX11_key_27 : decode cX11_key 27 = .ok (.bipush 16, 2) := by decide +kernel
theorem dX11_key_29 : decode cX11_key 29 = .ok (.if_icmp .lt 13, 3) := by decide +kernel
theorem dX11_key_32 : decode cX11_key 32 = .ok (.new 88, 3) := by decide +kernel
theorem dX11_key_35 : decode cX11_key 35 = .ok (.dup, 1) := by decide +kernel
theorem dX11_key_36 : decode cX11_key 36 = .ok (.ldc 212, 2) := by decide +kernel
theorem dX11_key_38 : decode cX11_key 38 = .ok (.invokespecial 92, 3) := by decide +kernel
theorem dX11_key_41 : decode cX11_key 41 = .ok (.athrow, 1) := by decide +kernel
theorem dX11_key_42 : decode cX11_key 42 = .ok (.aload_n 0, 1) := by decide +kernel
theorem dX11_key_43 : decode cX11_key 43 = .ok (.getfield 63, 3) := by decide +kernel
theorem dX11_key_46 : decode cX11_key 46 = .ok (.invokevirtual 99, 3) := by decide +kernel
theorem dX11_key_49 : decode cX11_key 49 = .ok (.aload_n 0, 1) := by decide +kernel
theorem dX11_key_50 : decode cX11_key 50 = .ok (.getfield 53, 3) := by decide +kernel
theorem dX11_key_53 : decode cX11_key 53 = .ok (.getfield 185, 3) := by decide +kernel
theorem dX11_key_56 : decode cX11_key 56 = .ok (.iload_n 1, 1) := by decide +kernel
theorem dX11_key_57 : decode cX11_key 57 = .ok (.invokevirtual 214, 3) := by decide +kernel
theorem dX11_key_60 : decode cX11_key 60 = .ok (.aload_n 0, 1) := by decide +kernel
theorem dX11_key_61 : decode cX11_key 61 = .ok (.getfield 53, 3) := by decide +kernel
theorem dX11_key_64 : decode cX11_key 64 = .ok (.getfield 185, 3) := by decide +kernel
theorem dX11_key_67 : decode cX11_key 67 = .ok (.getfield 209, 3) := by decide +kernel
theorem dX11_key_70 : decode cX11_key 70 = .ok (.ireturn, 1) := by decide +kernel
theorem dX11_signal_0 : decode cX11_signal 0 = .ok (.aload_n 0, 1) := by decide +kernel
theorem dX11_signal_1 : decode cX11_signal 1 = .ok (.getfield 63, 3) := by decide +kernel
theorem dX11_signal_4 : decode cX11_signal 4 = .ok (.invokevirtual 99, 3) := by decide +kernel
theorem dX11_signal_7 : decode cX11_signal 7 = .ok (.aload_n 0, 1) := by decide +kernel
theorem dX11_signal_8 : decode cX11_signal 8 = .ok (.getfield 53, 3) := by decide +kernel
theorem dX11_signal_11 : decode cX11_signal 11 = .ok (.getfield 185, 3) := by decide +kernel
theorem dX11_signal_14 : decode cX11_signal 14 = .ok (.dup, 1) := by decide +kernel
theorem dX11_signal_15 : decode cX11_signal 15 = .ok (.getfield 217, 3) := by decide +kernel
theorem dX11_signal_18 : decode cX11_signal 18 = .ok (.iconst 4, 1) := by decide +kernel
theorem dX11_signal_19 : decode cX11_signal 19 = .ok (.ior, 1) := by decide +kernel
theorem dX11_signal_20 : decode cX11_signal 20 = .ok (.putfield 217, 3) := by decide +kernel
theorem dX11_signal_23 : decode cX11_signal 23 = .ok (.aload_n 0, 1) := by decide +kernel
theorem dX11_signal_24 : decode cX11_signal 24 = .ok (.getfield 53, 3) := by decide +kernel
theorem dX11_signal_27 : decode cX11_signal 27 = .ok (.getfield 185, 3) := by decide +kernel
theorem dX11_signal_30 : decode cX11_signal 30 = .ok (.getfield 217, 3) := by decide +kernel
theorem dX11_signal_33 : decode cX11_signal 33 = .ok (.ireturn, 1) := by decide +kernel
theorem dX11_nmi_0 : decode cX11_nmi 0 = .ok (.aload_n 0, 1) := by decide +kernel
theorem dX11_nmi_1 : decode cX11_nmi 1 = .ok (.getfield 53, 3) := by decide +kernel
theorem dX11_nmi_4 : decode cX11_nmi 4 = .ok (.getfield 220, 3) := by decide +kernel
theorem dX11_nmi_7 : decode cX11_nmi 7 = .ok (.istore_n 1, 1) := by decide +kernel
theorem dX11_nmi_8 : decode cX11_nmi 8 = .ok (.aload_n 0, 1) := by decide +kernel
theorem dX11_nmi_9 : decode cX11_nmi 9 = .ok (.getfield 63, 3) := by decide +kernel
theorem dX11_nmi_12 : decode cX11_nmi 12 = .ok (.invokevirtual 99, 3) := by decide +kernel
theorem dX11_nmi_15 : decode cX11_nmi 15 = .ok (.aload_n 0, 1) := by decide +kernel
theorem dX11_nmi_16 : decode cX11_nmi 16 = .ok (.getfield 53, 3) := by decide +kernel
theorem dX11_nmi_19 : decode cX11_nmi 19 = .ok (.iconst 1, 1) := by decide +kernel
theorem dX11_nmi_20 : decode cX11_nmi 20 = .ok (.putfield 220, 3) := by decide +kernel
theorem dX11_nmi_23 : decode cX11_nmi 23 = .ok (.iload_n 1, 1) := by decide +kernel
theorem dX11_nmi_24 : decode cX11_nmi 24 = .ok (.ireturn, 1) := by decide +kernel
theorem dX11_poke_0 : decode cX11_poke 0 = .ok (.iload_n 1, 1) := by decide +kernel
theorem dX11_poke_1 : decode cX11_poke 1 = .ok (.invokestatic 172, 3) := by decide +kernel
theorem dX11_poke_4 : decode cX11_poke 4 = .ok (.ifCond .ne 10, 3) := by decide +kernel
theorem dX11_poke_7 : decode cX11_poke 7 = .ok (.iload_n 1, 1) := by decide +kernel
theorem dX11_poke_8 : decode cX11_poke 8 = .ok (.invokestatic 224, 3) := by decide +kernel
theorem dX11_poke_11 : decode cX11_poke 11 = .ok (.ifCond .eq 13, 3) := by decide +kernel
theorem dX11_poke_14 : decode cX11_poke 14 = .ok (.new 102, 3) := by decide +kernel
theorem dX11_poke_17 : decode cX11_poke 17 = .ok (.dup, 1) := by decide +kernel
theorem dX11_poke_18 : decode cX11_poke 18 = .ok (.ldc 227, 2) := by decide +kernel
theorem dX11_poke_20 : decode cX11_poke 20 = .ok (.invokespecial 106, 3) := by decide +kernel
theorem dX11_poke_23 : decode cX11_poke 23 = .ok (.athrow, 1) := by decide +kernel
theorem dX11_poke_24 : decode cX11_poke 24 = .ok (.iload_n 2, 1) := by decide +kernel
theorem dX11_poke_25 : decode cX11_poke 25 = .ok (.invokestatic 204, 3) := by decide +kernel
theorem dX11_poke_28 : decode cX11_poke 28 = .ok (.ifCond .eq 13, 3) := by decide +kernel
theorem dX11_poke_31 : decode cX11_poke 31 = .ok (.new 102, 3) := by decide +kernel
theorem dX11_poke_34 : decode cX11_poke 34 = .ok (.dup, 1) := by decide +kernel
theorem dX11_poke_35 : decode cX11_poke 35 = .ok (.ldc 207, 2) := by decide +kernel
theorem dX11_poke_37 : decode cX11_poke 37 = .ok (.invokespecial 106, 3) := by decide +kernel
theorem dX11_poke_40 : decode cX11_poke 40 = .ok (.athrow, 1) := by decide +kernel
theorem dX11_poke_41 : decode cX11_poke 41 = .ok (.iload_n 1, 1) := by decide +kernel
theorem dX11_poke_42 : decode cX11_poke 42 = .ok (.aload_n 0, 1) := by decide +kernel
theorem dX11_poke_43 : decode cX11_poke 43 = .ok (.getfield 53, 3) := by decide +kernel
theorem dX11_poke_46 : decode cX11_poke 46 = .ok (.getfield 185, 3) := by decide +kernel
theorem dX11_poke_49 : decode cX11_poke 49 = .ok (.getfield 189, 3) := by decide +kernel
theorem dX11_poke_52 : decode cX11_poke 52 = .ok (.invokestatic 194, 3) := by decide +kernel
theorem dX11_poke_55 : decode cX11_poke 55 = .ok (.istore_n 3, 1) := by decide +kernel
theorem dX11_poke_56 : decode cX11_poke 56 = .ok (.aload_n 0, 1) := by decide +kernel
theorem dX11_poke_57 : decode cX11_poke 57 = .ok (.getfield 53, 3) := by decide +kernel
theorem dX11_poke_60 : decode cX11_poke 60 = .ok (.getfield 144, 3) := by decide +kernel
theorem dX11_poke_63 : decode cX11_poke 63 = .ok (.iload_n 3, 1) := by decide +kernel
theorem dX11_poke_64 : decode cX11_poke 64 = .ok (.invokestatic 168, 3) := by decide +kernel
theorem dX11_poke_67 : decode cX11_poke 67 = .ok (.istore 4, 2) := by decide +kernel
theorem dX11_poke_69 : decode cX11_poke 69 = .ok (.aload_n 0, 1) := by decide +kernel
theorem dX11_poke_70 : decode cX11_poke 70 = .ok (.getfield 63, 3) := by decide +kernel
theorem dX11_poke_73 : decode cX11_poke 73 = .ok (.invokevirtual 99, 3) := by decide +kernel
theorem dX11_poke_76 : decode cX11_poke 76 = .ok (.aload_n 0, 1) := by decide +kernel
theorem dX11_poke_77 : decode cX11_poke 77 = .ok (.getfield 53, 3) := by decide +kernel
theorem dX11_poke_80 : decode cX11_poke 80 = .ok (.getfield 144, 3) := by decide +kernel
theorem dX11_poke_83 : decode cX11_poke 83 = .ok (.iload_n 3, 1) := by decide +kernel
theorem dX11_poke_84 : decode cX11_poke 84 = .ok (.iload_n 2, 1) := by decide +kernel
theorem dX11_poke_85 : decode cX11_poke 85 = .ok (.invokestatic 229, 3) := by decide +kernel
theorem dX11_poke_88 : decode cX11_poke 88 = .ok (.iload 4, 2) := by decide +kernel
theorem dX11_poke_90 : decode cX11_poke 90 = .ok (.ireturn, 1) := by decide +kernel
theorem dX11_setRegister_0 : decode cX11_setRegister 0 = .ok (.iload_n 1, 1) := by decide +kernel
theorem dX11_setRegister_1 : decode cX11_setRegister 1 = .ok (.ifCond .lt 8, 3) := by decide +kernel
theorem dX11_setRegister_4 : decode cX11_setRegister 4 = .ok (.iload_n 1, 1) := by decide +kernel
theorem dX11_setRegister_5 : decode cX11_setRegister 5 = .ok (.iconst 4, 1) := by decide +kernel
theorem dX11_setRegister_6 : decode cX11_setRegister 6 = .ok (.if_icmp .le 13, 3) := by decide +kernel
theorem dX11_setRegister_9 : decode cX11_setRegister 9 = .ok (.new 160, 3) := by decide +kernel
theorem dX11_setRegister_12 : decode cX11_setRegister 12 = .ok (.dup, 1) := by decide +kernel
theorem dX11_setRegister_13 : decode cX11_setRegister 13 = .ok (.ldc 233, 2) := by decide +kernel
theorem dX11_setRegister_15 : decode cX11_setRegister 15 = .ok (.invokespecial 164, 3) := by decide +kernel
theorem dX11_setRegister_18 : decode cX11_setRegister 18 = .ok (.athrow, 1) := by decide +kernel
theorem dX11_setRegister_19 : decode cX11_setRegister 19 = .ok (.iload_n 1, 1) := by decide +kernel
theorem dX11_setRegister_20 : decode cX11_setRegister 20 = .ok (.iconst 4, 1) := by decide +kernel
theorem dX11_setRegister_21 : decode cX11_setRegister 21 = .ok (.if_icmp .ne 9, 3) := by decide +kernel
theorem dX11_setRegister_24 : decode cX11_setRegister 24 = .ok (.sipush 4095, 3) := by decide +kernel
theorem dX11_setRegister_27 : decode cX11_setRegister 27 = .ok (.goto 16, 3) := by decide +kernel
theorem dX11_setRegister_30 : decode cX11_setRegister 30 = .ok (.iload_n 1, 1) := by decide +kernel
theorem dX11_setRegister_31 : decode cX11_setRegister 31 = .ok (.iconst 3, 1) := by decide +kernel
theorem dX11_setRegister_32 : decode cX11_setRegister 32 = .ok (.if_icmp .ne 8, 3) := by decide +kernel
theorem dX11_setRegister_35 : decode cX11_setRegister 35 = .ok (.bipush 31, 2) := by decide +kernel
theorem dX11_setRegister_37 : decode cX11_setRegister 37 = .ok (.goto 6, 3) := by decide +kernel
theorem dX11_setRegister_40 : decode cX11_setRegister 40 = .ok (.sipush 255, 3) := by decide +kernel
theorem dX11_setRegister_43 : decode cX11_setRegister 43 = .ok (.istore_n 3, 1) := by decide +kernel
theorem dX11_setRegister_44 : decode cX11_setRegister 44 = .ok (.iload_n 2, 1) := by decide +kernel
theorem dX11_setRegister_45 : decode cX11_setRegister 45 = .ok (.ifCond .lt 8, 3) := by decide +kernel
theorem dX11_setRegister_48 : decode cX11_setRegister 48 = .ok (.iload_n 2, 1) := by decide +kernel
theorem dX11_setRegister_49 : decode cX11_setRegister 49 = .ok (.iload_n 3, 1) := by decide +kernel
theorem dX11_setRegister_50 : decode cX11_setRegister 50 = .ok (.if_icmp .le 13, 3) := by decide +kernel
theorem dX11_setRegister_53 : decode cX11_setRegister 53 = .ok (.new 102, 3) := by decide +kernel
theorem dX11_setRegister_56 : decode cX11_setRegister 56 = .ok (.dup, 1) := by decide +kernel
theorem dX11_setRegister_57 : decode cX11_setRegister 57 = .ok (.ldc 235, 2) := by decide +kernel
theorem dX11_setRegister_59 : decode cX11_setRegister 59 = .ok (.invokespecial 106, 3) := by decide +kernel
theorem dX11_setRegister_62 : decode cX11_setRegister 62 = .ok (.athrow, 1) := by decide +kernel
theorem dX11_setRegister_63 : decode cX11_setRegister 63 = .ok (.aload_n 0, 1) := by decide +kernel
theorem dX11_setRegister_64 : decode cX11_setRegister 64 = .ok (.getfield 63, 3) := by decide +kernel
theorem dX11_setRegister_67 : decode cX11_setRegister 67 = .ok (.invokevirtual 99, 3) := by decide +kernel
theorem dX11_setRegister_70 : decode cX11_setRegister 70 = .ok (.aload_n 0, 1) := by decide +kernel
theorem dX11_setRegister_71 : decode cX11_setRegister 71 = .ok (.getfield 53, 3) := by decide +kernel
theorem dX11_setRegister_74 : decode cX11_setRegister 74 = .ok (.iload_n 1, 1) := by decide +kernel
theorem dX11_setRegister_75 : decode cX11_setRegister 75 = .ok (.iload_n 2, 1) := by decide +kernel
theorem dX11_setRegister_76 : decode cX11_setRegister 76 = .ok (.invokevirtual 237, 3) := by decide +kernel
theorem dX11_setRegister_79 : decode cX11_setRegister 79 = .ok (.ireturn, 1) := by decide +kernel
theorem dX11_step_0 : decode cX11_step 0 = .ok (.aload_n 0, 1) := by decide +kernel
theorem dX11_step_1 : decode cX11_step 1 = .ok (.getfield 53, 3) := by decide +kernel
theorem dX11_step_4 : decode cX11_step 4 = .ok (.invokevirtual 240, 3) := by decide +kernel
theorem dX11_step_7 : decode cX11_step 7 = .ok (.ifCond .eq 5, 3) := by decide +kernel
theorem dX11_step_10 : decode cX11_step 10 = .ok (.iconst 0, 1) := by decide +kernel
theorem dX11_step_11 : decode cX11_step 11 = .ok (.ireturn, 1) := by decide +kernel
theorem dX11_step_12 : decode cX11_step 12 = .ok (.aload_n 0, 1) := by decide +kernel
theorem dX11_step_13 : decode cX11_step 13 = .ok (.getfield 63, 3) := by decide +kernel
theorem dX11_step_16 : decode cX11_step 16 = .ok (.aload_n 0, 1) := by decide +kernel
theorem dX11_step_17 : decode cX11_step 17 = .ok (.getfield 53, 3) := by decide +kernel
theorem dX11_step_20 : decode cX11_step 20 = .ok (.invokevirtual 243, 3) := by decide +kernel
theorem dX11_step_23 : decode cX11_step 23 = .ok (.aload_n 0, 1) := by decide +kernel
theorem dX11_step_24 : decode cX11_step 24 = .ok (.getfield 53, 3) := by decide +kernel
theorem dX11_step_27 : decode cX11_step 27 = .ok (.invokevirtual 247, 3) := by decide +kernel
theorem dX11_step_30 : decode cX11_step 30 = .ok (.ireturn, 1) := by decide +kernel
theorem dX11_run_0 : decode cX11_run 0 = .ok (.iload_n 1, 1) := by decide +kernel
theorem dX11_run_1 : decode cX11_run 1 = .ok (.invokestatic 250, 3) := by decide +kernel
theorem dX11_run_4 : decode cX11_run 4 = .ok (.ifCond .eq 13, 3) := by decide +kernel
theorem dX11_run_7 : decode cX11_run 7 = .ok (.new 102, 3) := by decide +kernel
theorem dX11_run_10 : decode cX11_run 10 = .ok (.dup, 1) := by decide +kernel
theorem dX11_run_11 : decode cX11_run 11 = .ok (.ldc 253, 2) := by decide +kernel
theorem dX11_run_13 : decode cX11_run 13 = .ok (.invokespecial 106, 3) := by decide +kernel
theorem dX11_run_16 : decode cX11_run 16 = .ok (.athrow, 1) := by decide +kernel
theorem dX11_run_17 : decode cX11_run 17 = .ok (.aload_n 0, 1) := by decide +kernel
theorem dX11_run_18 : decode cX11_run 18 = .ok (.iload_n 1, 1) := by decide +kernel
theorem dX11_run_19 : decode cX11_run 19 = .ok (.iconst (-1), 1) := by decide +kernel
theorem dX11_run_20 : decode cX11_run 20 = .ok (.invokevirtual 255, 3) := by decide +kernel
theorem dX11_run_23 : decode cX11_run 23 = .ok (.ireturn, 1) := by decide +kernel
theorem dX11_stepOver_0 : decode cX11_stepOver 0 = .ok (.aload_n 0, 1) := by decide +kernel
theorem dX11_stepOver_1 : decode cX11_stepOver 1 = .ok (.getfield 53, 3) := by decide +kernel
theorem dX11_stepOver_4 : decode cX11_stepOver 4 = .ok (.invokevirtual 258, 3) := by decide +kernel
theorem dX11_stepOver_7 : decode cX11_stepOver 7 = .ok (.ifCond .eq 28, 3) := by decide +kernel
theorem dX11_stepOver_10 : decode cX11_stepOver 10 = .ok (.aload_n 0, 1) := by decide +kernel
theorem dX11_stepOver_11 : decode cX11_stepOver 11 = .ok (.getfield 53, 3) := by decide +kernel
theorem dX11_stepOver_14 : decode cX11_stepOver 14 = .ok (.invokevirtual 262, 3) := by decide +kernel
theorem dX11_stepOver_17 : decode cX11_stepOver 17 = .ok (.ifCond .eq 18, 3) := by decide +kernel
theorem dX11_stepOver_20 : decode cX11_stepOver 20 = .ok (.aload_n 0, 1) := by decide +kernel
theorem dX11_stepOver_21 : decode cX11_stepOver 21 = .ok (.sipush 5000, 3) := by decide +kernel
theorem dX11_stepOver_24 : decode cX11_stepOver 24 = .ok (.aload_n 0, 1) := by decide +kernel
theorem dX11_stepOver_25 : decode cX11_stepOver 25 = .ok (.getfield 53, 3) := by decide +kernel
theorem dX11_stepOver_28 : decode cX11_stepOver 28 = .ok (.getfield 265, 3) := by decide +kernel
theorem dX11_stepOver_31 : decode cX11_stepOver 31 = .ok (.invokevirtual 255, 3) := by decide +kernel
theorem dX11_stepOver_34 : decode cX11_stepOver 34 = .ok (.ireturn, 1) := by decide +kernel
theorem dX11_stepOver_35 : decode cX11_stepOver 35 = .ok (.aload_n 0, 1) := by decide +kernel
theorem dX11_stepOver_36 : decode cX11_stepOver 36 = .ok (.invokevirtual 268, 3) := by decide +kernel
theorem dX11_stepOver_39 : decode cX11_stepOver 39 = .ok (.istore_n 1, 1) := by decide +kernel
theorem dX11_stepOver_40 : decode cX11_stepOver 40 = .ok (.aload_n 0, 1) := by decide +kernel
theorem dX11_stepOver_41 : decode cX11_stepOver 41 = .ok (.getfield 53, 3) := by decide +kernel
theorem dX11_stepOver_44 : decode cX11_stepOver 44 = .ok (.invokevirtual 240, 3) := by decide +kernel
theorem dX11_stepOver_47 : decode cX11_stepOver 47 = .ok (.istore_n 2, 1) := by decide +kernel
theorem dX11_stepOver_48 : decode cX11_stepOver 48 = .ok (.aload_n 0, 1) := by decide +kernel
theorem dX11_stepOver_49 : decode cX11_stepOver 49 = .ok (.getfield 70, 3) := by decide +kernel
theorem dX11_stepOver_52 : decode cX11_stepOver 52 = .ok (.iload_n 2, 1) := by decide +kernel
theorem dX11_stepOver_53 : decode cX11_stepOver 53 = .ok (.ifCond .eq 7, 3) := by decide +kernel
theorem dX11_stepOver_56 : decode cX11_stepOver 56 = .ok (.iload_n 2, 1) := by decide +kernel
theorem dX11_stepOver_57 : decode cX11_stepOver 57 = .ok (.goto 5, 3) := by decide +kernel
theorem dX11_stepOver_60 : decode cX11_stepOver 60 = .ok (.bipush 6, 2) := by decide +kernel
theorem dX11_stepOver_62 : decode cX11_stepOver 62 = .ok (.putfield 198, 3) := by decide +kernel
theorem dX11_stepOver_65 : decode cX11_stepOver 65 = .ok (.iload_n 1, 1) := by decide +kernel
theorem dX11_stepOver_66 : decode cX11_stepOver 66 = .ok (.ireturn, 1) := by decide +kernel
theorem dX11_stepOut_0 : decode cX11_stepOut 0 = .ok (.aload_n 0, 1) := by decide +kernel
theorem dX11_stepOut_1 : decode cX11_stepOut 1 = .ok (.sipush 5000, 3) := by decide +kernel
theorem dX11_stepOut_4 : decode cX11_stepOut 4 = .ok (.aload_n 0, 1) := by decide +kernel
theorem dX11_stepOut_5 : decode cX11_stepOut 5 = .ok (.getfield 53, 3) := by decide +kernel
theorem dX11_stepOut_8 : decode cX11_stepOut 8 = .ok (.getfield 265, 3) := by decide +kernel
theorem dX11_stepOut_11 : decode cX11_stepOut 11 = .ok (.iconst 1, 1) := by decide +kernel
theorem dX11_stepOut_12 : decode cX11_stepOut 12 = .ok (.isub, 1) := by decide +kernel
theorem dX11_stepOut_13 : decode cX11_stepOut 13 = .ok (.invokevirtual 255, 3) := by decide +kernel
theorem dX11_stepOut_16 : decode cX11_stepOut 16 = .ok (.ireturn, 1) := by decide +kernel
theorem dX11_back_0 : decode cX11_back 0 = .ok (.iload_n 1, 1) := by decide +kernel
theorem dX11_back_1 : decode cX11_back 1 = .ok (.iconst 1, 1) := by decide +kernel
theorem dX11_back_2 : decode cX11_back 2 = .ok (.if_icmp .lt 10, 3) := by decide +kernel
theorem dX11_back_5 : decode cX11_back 5 = .ok (.iload_n 1, 1) := by decide +kernel
theorem dX11_back_6 : decode cX11_back 6 = .ok (.sipush 200, 3) := by decide +kernel
theorem dX11_back_9 : decode cX11_back 9 = .ok (.if_icmp .le 14, 3) := by decide +kernel
theorem dX11_back_12 : decode cX11_back 12 = .ok (.new 102, 3) := by decide +kernel
theorem dX11_back_15 : decode cX11_back 15 = .ok (.dup, 1) := by decide +kernel
theorem dX11_back_16 : decode cX11_back 16 = .ok (.ldc_w 271, 3) := by decide +kernel
theorem dX11_back_19 : decode cX11_back 19 = .ok (.invokespecial 106, 3) := by decide +kernel
theorem dX11_back_22 : decode cX11_back 22 = .ok (.athrow, 1) := by decide +kernel
theorem dX11_back_23 : decode cX11_back 23 = .ok (.aload_n 0, 1) := by decide +kernel
theorem dX11_back_24 : decode cX11_back 24 = .ok (.getfield 70, 3) := by decide +kernel
theorem dX11_back_27 : decode cX11_back 27 = .ok (.iconst 0, 1) := by decide +kernel
theorem dX11_back_28 : decode cX11_back 28 = .ok (.putfield 198, 3) := by decide +kernel
theorem dX11_back_31 : decode cX11_back 31 = .ok (.aload_n 0, 1) := by decide +kernel
theorem dX11_back_32 : decode cX11_back 32 = .ok (.getfield 63, 3) := by decide +kernel
theorem dX11_back_35 : decode cX11_back 35 = .ok (.aload_n 0, 1) := by decide +kernel
theorem dX11_back_36 : decode cX11_back 36 = .ok (.getfield 53, 3) := by decide +kernel
theorem dX11_back_39 : decode cX11_back 39 = .ok (.iload_n 1, 1) := by decide +kernel
theorem dX11_back_40 : decode cX11_back 40 = .ok (.invokevirtual 273, 3) := by decide +kernel
theorem dX11_back_43 : decode cX11_back 43 = .ok (.ireturn, 1) := by decide +kernel
theorem dX11_stopped_0 : decode cX11_stopped 0 = .ok (.aload_n 0, 1) := by decide +kernel
theorem dX11_stopped_1 : decode cX11_stopped 1 = .ok (.getfield 70, 3) := by decide +kernel
theorem dX11_stopped_4 : decode cX11_stopped 4 = .ok (.getfield 198, 3) := by decide +kernel
theorem dX11_stopped_7 : decode cX11_stopped 7 = .ok (.ireturn, 1) := by decide +kernel
theorem dX11_history_0 : decode cX11_history 0 = .ok (.aload_n 0, 1) := by decide +kernel
theorem dX11_history_1 : decode cX11_history 1 = .ok (.getfield 63, 3) := by decide +kernel
theorem dX11_history_4 : decode cX11_history 4 = .ok (.getfield 277, 3) := by decide +kernel
theorem dX11_history_7 : decode cX11_history 7 = .ok (.ireturn, 1) := by decide +kernel
theorem dX11_setBreak_0 : decode cX11_setBreak 0 = .ok (.iload_n 1, 1) := by decide +kernel
theorem dX11_setBreak_1 : decode cX11_setBreak 1 = .ok (.invokestatic 172, 3) := by decide +kernel
theorem dX11_setBreak_4 : decode cX11_setBreak 4 = .ok (.ifCond .eq 13, 3) := by decide +kernel
theorem dX11_setBreak_7 : decode cX11_setBreak 7 = .ok (.new 102, 3) := by decide +kernel
theorem dX11_setBreak_10 : decode cX11_setBreak 10 = .ok (.dup, 1) := by decide +kernel
theorem dX11_setBreak_11 : decode cX11_setBreak 11 = .ok (.ldc 176, 2) := by decide +kernel
theorem dX11_setBreak_13 : decode cX11_setBreak 13 = .ok (.invokespecial 106, 3) := by decide +kernel
theorem dX11_setBreak_16 : decode cX11_setBreak 16 = .ok (.athrow, 1) := by decide +kernel
theorem dX11_setBreak_17 : decode cX11_setBreak 17 = .ok (.iload_n 2, 1) := by decide +kernel
theorem dX11_setBreak_18 : decode cX11_setBreak 18 = .ok (.ifCond .lt 10, 3) := by decide +kernel
theorem dX11_setBreak_21 : decode cX11_setBreak 21 = .ok (.iload_n 2, 1) := by decide +kernel
theorem dX11_setBreak_22 : decode cX11_setBreak 22 = .ok (.sipush 1000, 3) := by decide +kernel
theorem dX11_setBreak_25 : decode cX11_setBreak 25 = .ok (.if_icmp .le 14, 3) := by decide +kernel
theorem dX11_setBreak_28 : decode cX11_setBreak 28 = .ok (.new 102, 3) := by decide +kernel
theorem dX11_setBreak_31 : decode cX11_setBreak 31 = .ok (.dup, 1) := by decide +kernel
theorem dX11_setBreak_32 : decode cX11_setBreak 32 = .ok (.ldc_w 280, 3) := by decide +kernel
theorem dX11_setBreak_35 : decode cX11_setBreak 35 = .ok (.invokespecial 106, 3) := by decide +kernel
theorem dX11_setBreak_38 : decode cX11_setBreak 38 = .ok (.athrow, 1) := by decide +kernel
theorem dX11_setBreak_39 : decode cX11_setBreak 39 = .ok (.aload_n 0, 1) := by decide +kernel
theorem dX11_setBreak_40 : decode cX11_setBreak 40 = .ok (.getfield 70, 3) := by decide +kernel
theorem dX11_setBreak_43 : decode cX11_setBreak 43 = .ok (.iload_n 1, 1) := by decide +kernel
theorem dX11_setBreak_44 : decode cX11_setBreak 44 = .ok (.invokevirtual 282, 3) := by decide +kernel
theorem dX11_setBreak_47 : decode cX11_setBreak 47 = .ok (.ifCond .ge 26, 3) := by decide +kernel
theorem dX11_setBreak_50 : decode cX11_setBreak 50 = .ok (.aload_n 0, 1) := by decide +kernel
theorem dX11_setBreak_51 : decode cX11_setBreak 51 = .ok (.getfield 70, 3) := by decide +kernel
theorem dX11_setBreak_54 : decode cX11_setBreak 54 = .ok (.getfield 285, 3) := by decide +kernel
theorem dX11_setBreak_57 : decode cX11_setBreak 57 = .ok (.bipush 6, 2) := by decide +kernel
theorem dX11_setBreak_59 : decode cX11_setBreak 59 = .ok (.if_icmp .lt 14, 3) := by decide +kernel
theorem dX11_setBreak_62 : decode cX11_setBreak 62 = .ok (.new 88, 3) := by decide +kernel
theorem dX11_setBreak_65 : decode cX11_setBreak 65 = .ok (.dup, 1) := by decide +kernel
theorem dX11_setBreak_66 : decode cX11_setBreak 66 = .ok (.ldc_w 288, 3) := by decide +kernel
theorem dX11_setBreak_69 : decode cX11_setBreak 69 = .ok (.invokespecial 92, 3) := by decide +kernel
theorem dX11_setBreak_72 : decode cX11_setBreak 72 = .ok (.athrow, 1) := by decide +kernel
theorem dX11_setBreak_73 : decode cX11_setBreak 73 = .ok (.aload_n 0, 1) := by decide +kernel
theorem dX11_setBreak_74 : decode cX11_setBreak 74 = .ok (.getfield 70, 3) := by decide +kernel
theorem dX11_setBreak_77 : decode cX11_setBreak 77 = .ok (.iload_n 1, 1) := by decide +kernel
theorem dX11_setBreak_78 : decode cX11_setBreak 78 = .ok (.iload_n 2, 1) := by decide +kernel
theorem dX11_setBreak_79 : decode cX11_setBreak 79 = .ok (.invokevirtual 290, 3) := by decide +kernel
theorem dX11_setBreak_82 : decode cX11_setBreak 82 = .ok (.aload_n 0, 1) := by decide +kernel
theorem dX11_setBreak_83 : decode cX11_setBreak 83 = .ok (.getfield 70, 3) := by decide +kernel
theorem dX11_setBreak_86 : decode cX11_setBreak 86 = .ok (.getfield 285, 3) := by decide +kernel
theorem dX11_setBreak_89 : decode cX11_setBreak 89 = .ok (.ireturn, 1) := by decide +kernel
theorem dX11_clearBreak_0 : decode cX11_clearBreak 0 = .ok (.aload_n 0, 1) := by decide +kernel
theorem dX11_clearBreak_1 : decode cX11_clearBreak 1 = .ok (.getfield 70, 3) := by decide +kernel
theorem dX11_clearBreak_4 : decode cX11_clearBreak 4 = .ok (.iload_n 1, 1) := by decide +kernel
theorem dX11_clearBreak_5 : decode cX11_clearBreak 5 = .ok (.invokevirtual 293, 3) := by decide +kernel
theorem dX11_clearBreak_8 : decode cX11_clearBreak 8 = .ok (.ireturn, 1) := by decide +kernel
theorem dX11_setWatch_0 : decode cX11_setWatch 0 = .ok (.iload_n 1, 1) := by decide +kernel
theorem dX11_setWatch_1 : decode cX11_setWatch 1 = .ok (.invokestatic 172, 3) := by decide +kernel
theorem dX11_setWatch_4 : decode cX11_setWatch 4 = .ok (.ifCond .ne 10, 3) := by decide +kernel
theorem dX11_setWatch_7 : decode cX11_setWatch 7 = .ok (.iload_n 2, 1) := by decide +kernel
theorem dX11_setWatch_8 : decode cX11_setWatch 8 = .ok (.invokestatic 172, 3) := by decide +kernel
theorem dX11_setWatch_11 : decode cX11_setWatch 11 = .ok (.ifCond .eq 13, 3) := by decide +kernel
theorem dX11_setWatch_14 : decode cX11_setWatch 14 = .ok (.new 102, 3) := by decide +kernel
theorem dX11_setWatch_17 : decode cX11_setWatch 17 = .ok (.dup, 1) := by decide +kernel
theorem dX11_setWatch_18 : decode cX11_setWatch 18 = .ok (.ldc 176, 2) := by decide +kernel
theorem dX11_setWatch_20 : decode cX11_setWatch 20 = .ok (.invokespecial 106, 3) := by decide +kernel
theorem dX11_setWatch_23 : decode cX11_setWatch 23 = .ok (.athrow, 1) := by decide +kernel
theorem dX11_setWatch_24 : decode cX11_setWatch 24 = .ok (.iload_n 2, 1) := by decide +kernel
theorem dX11_setWatch_25 : decode cX11_setWatch 25 = .ok (.iload_n 1, 1) := by decide +kernel
theorem dX11_setWatch_26 : decode cX11_setWatch 26 = .ok (.if_icmp .ge 14, 3) := by decide +kernel
theorem dX11_setWatch_29 : decode cX11_setWatch 29 = .ok (.new 102, 3) := by decide +kernel
theorem dX11_setWatch_32 : decode cX11_setWatch 32 = .ok (.dup, 1) := by decide +kernel
theorem dX11_setWatch_33 : decode cX11_setWatch 33 = .ok (.ldc_w 296, 3) := by decide +kernel
theorem dX11_setWatch_36 : decode cX11_setWatch 36 = .ok (.invokespecial 106, 3) := by decide +kernel
theorem dX11_setWatch_39 : decode cX11_setWatch 39 = .ok (.athrow, 1) := by decide +kernel
theorem dX11_setWatch_40 : decode cX11_setWatch 40 = .ok (.aload_n 0, 1) := by decide +kernel
theorem dX11_setWatch_41 : decode cX11_setWatch 41 = .ok (.getfield 70, 3) := by decide +kernel
theorem dX11_setWatch_44 : decode cX11_setWatch 44 = .ok (.getfield 298, 3) := by decide +kernel
theorem dX11_setWatch_47 : decode cX11_setWatch 47 = .ok (.iconst 4, 1) := by decide +kernel
theorem dX11_setWatch_48 : decode cX11_setWatch 48 = .ok (.if_icmp .lt 14, 3) := by decide +kernel
theorem dX11_setWatch_51 : decode cX11_setWatch 51 = .ok (.new 88, 3) := by decide +kernel
theorem dX11_setWatch_54 : decode cX11_setWatch 54 = .ok (.dup, 1) := by decide +kernel
theorem dX11_setWatch_55 : decode cX11_setWatch 55 = .ok (.ldc_w 301, 3) := by decide +kernel
theorem dX11_setWatch_58 : decode cX11_setWatch 58 = .ok (.invokespecial 92, 3) := by decide +kernel
theorem dX11_setWatch_61 : decode cX11_setWatch 61 = .ok (.athrow, 1) := by decide +kernel
theorem dX11_setWatch_62 : decode cX11_setWatch 62 = .ok (.aload_n 0, 1) := by decide +kernel
theorem dX11_setWatch_63 : decode cX11_setWatch 63 = .ok (.getfield 70, 3) := by decide +kernel
theorem dX11_setWatch_66 : decode cX11_setWatch 66 = .ok (.iload_n 1, 1) := by decide +kernel
theorem dX11_setWatch_67 : decode cX11_setWatch 67 = .ok (.iload_n 2, 1) := by decide +kernel
theorem dX11_setWatch_68 : decode cX11_setWatch 68 = .ok (.iload_n 3, 1) := by decide +kernel
