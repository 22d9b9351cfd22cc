theorem dX12_cut_0 : decode cX12_cut 0 = .ok (.aload_n 0, 1) := by decide +kernel
theorem dX12_cut_1 : decode cX12_cut 1 = .ok (.iconst 0, 1) := by decide +kernel
theorem dX12_cut_2 : decode cX12_cut 2 = .ok (.putfield 293, 3) := by decide +kernel
theorem dX12_cut_5 : decode cX12_cut 5 = .ok (.iconst 1, 1) := by decide +kernel
theorem dX12_cut_6 : decode cX12_cut 6 = .ok (.istore_n 1, 1) := by decide +kernel
theorem dX12_cut_7 : decode cX12_cut 7 = .ok (.iconst 0, 1) := by decide +kernel
theorem dX12_cut_8 : decode cX12_cut 8 = .ok (.istore_n 2, 1) := by decide +kernel
theorem dX12_cut_9 : decode cX12_cut 9 = .ok (.iload_n 2, 1) := by decide +kernel
theorem dX12_cut_10 : decode cX12_cut 10 = .ok (.aload_n 0, 1) := by decide +kernel
theorem dX12_cut_11 : decode cX12_cut 11 = .ok (.getfield 284, 3) := by decide +kernel
theorem dX12_cut_14 : decode cX12_cut 14 = .ok (.if_icmp .ge 19, 3) := by decide +kernel
theorem dX12_cut_17 : decode cX12_cut 17 = .ok (.aload_n 0, 1) := by decide +kernel
theorem dX12_cut_18 : decode cX12_cut 18 = .ok (.iload_n 2, 1) := by decide +kernel
theorem dX12_cut_19 : decode cX12_cut 19 = .ok (.invokevirtual 287, 3) := by decide +kernel
theorem dX12_cut_22 : decode cX12_cut 22 = .ok (.bipush 32, 2) := by decide +kernel
theorem dX12_cut_24 : decode cX12_cut 24 = .ok (.if_icmp .ne 9, 3) := by decide +kernel
theorem dX12_cut_27 : decode cX12_cut 27 = .ok (.iinc 2 1, 3) := by decide +kernel
theorem dX12_cut_30 : decode cX12_cut 30 = .ok (.goto (-21), 3) := by decide +kernel
theorem dX12_cut_33 : decode cX12_cut 33 = .ok (.iload_n 2, 1) := by decide +kernel
theorem dX12_cut_34 : decode cX12_cut 34 = .ok (.aload_n 0, 1) := by decide +kernel
theorem dX12_cut_35 : decode cX12_cut 35 = .ok (.getfield 284, 3) := by decide +kernel
theorem dX12_cut_38 : decode cX12_cut 38 = .ok (.if_icmp .ge 37, 3) := by decide +kernel
theorem dX12_cut_41 : decode cX12_cut 41 = .ok (.aload_n 0, 1) := by decide +kernel
theorem dX12_cut_42 : decode cX12_cut 42 = .ok (.iload_n 2, 1) := by decide +kernel
theorem dX12_cut_43 : decode cX12_cut 43 = .ok (.invokevirtual 287, 3) := by decide +kernel
theorem dX12_cut_46 : decode cX12_cut 46 = .ok (.bipush 59, 2) := by decide +kernel
theorem dX12_cut_48 : decode cX12_cut 48 = .ok (.if_icmp .ne 27, 3) := by decide +kernel
theorem dX12_cut_51 : decode cX12_cut 51 = .ok (.iload_n 2, 1) := by decide +kernel
theorem dX12_cut_52 : decode cX12_cut 52 = .ok (.aload_n 0, 1) := by decide +kernel
theorem dX12_cut_53 : decode cX12_cut 53 = .ok (.getfield 284, 3) := by decide +kernel
theorem dX12_cut_56 : decode cX12_cut 56 = .ok (.if_icmp .ge 19, 3) := by decide +kernel
theorem dX12_cut_59 : decode cX12_cut 59 = .ok (.aload_n 0, 1) := by decide +kernel
theorem dX12_cut_60 : decode cX12_cut 60 = .ok (.iload_n 2, 1) := by decide +kernel
theorem dX12_cut_61 : decode cX12_cut 61 = .ok (.invokevirtual 287, 3) := by decide +kernel
theorem dX12_cut_64 : decode cX12_cut 64 = .ok (.bipush 10, 2) := by decide +kernel
theorem dX12_cut_66 : decode cX12_cut 66 = .ok (.if_icmp .eq 9, 3) := by decide +kernel
theorem dX12_cut_69 : decode cX12_cut 69 = .ok (.iinc 2 1, 3) := by decide +kernel
theorem dX12_cut_72 : decode cX12_cut 72 = .ok (.goto (-21), 3) := by decide +kernel
theorem dX12_cut_75 : decode cX12_cut 75 = .ok (.iload_n 2, 1) := by decide +kernel
theorem dX12_cut_76 : decode cX12_cut 76 = .ok (.aload_n 0, 1) := by decide +kernel
theorem dX12_cut_77 : decode cX12_cut 77 = .ok (.getfield 284, 3) := by decide +kernel
theorem dX12_cut_80 : decode cX12_cut 80 = .ok (.if_icmp .ge 36, 3) := by decide +kernel
theorem dX12_cut_83 : decode cX12_cut 83 = .ok (.aload_n 0, 1) := by decide +kernel
theorem dX12_cut_84 : decode cX12_cut 84 = .ok (.iload_n 2, 1) := by decide +kernel
theorem dX12_cut_85 : decode cX12_cut 85 = .ok (.invokevirtual 287, 3) := by decide +kernel
theorem dX12_cut_88 : decode cX12_cut 88 = .ok (.bipush 10, 2) := by decide +kernel
theorem dX12_cut_90 : decode cX12_cut 90 = .ok (.if_icmp .eq 26, 3) := by decide +kernel
theorem dX12_cut_93 : decode cX12_cut 93 = .ok (.aload_n 0, 1) := by decide +kernel
theorem dX12_cut_94 : decode cX12_cut 94 = .ok (.iload_n 2, 1) := by decide +kernel
theorem dX12_cut_95 : decode cX12_cut 95 = .ok (.invokevirtual 330, 3) := by decide +kernel
theorem dX12_cut_98 : decode cX12_cut 98 = .ok (.istore_n 2, 1) := by decide +kernel
theorem dX12_cut_99 : decode cX12_cut 99 = .ok (.aload_n 0, 1) := by decide +kernel
theorem dX12_cut_100 : decode cX12_cut 100 = .ok (.getfield 48, 3) := by decide +kernel
theorem dX12_cut_103 : decode cX12_cut 103 = .ok (.aload_n 0, 1) := by decide +kernel
theorem dX12_cut_104 : decode cX12_cut 104 = .ok (.getfield 293, 3) := by decide +kernel
theorem dX12_cut_107 : decode cX12_cut 107 = .ok (.iconst 1, 1) := by decide +kernel
theorem dX12_cut_108 : decode cX12_cut 108 = .ok (.isub, 1) := by decide +kernel
theorem dX12_cut_109 : decode cX12_cut 109 = .ok (.iaload, 1) := by decide +kernel
theorem dX12_cut_110 : decode cX12_cut 110 = .ok (.bipush 7, 2) := by decide +kernel
theorem dX12_cut_112 : decode cX12_cut 112 = .ok (.if_icmp .ne (-103), 3) := by decide +kernel
theorem dX12_cut_115 : decode cX12_cut 115 = .ok (.return_, 1) := by decide +kernel
theorem dX12_cut_116 : decode cX12_cut 116 = .ok (.aload_n 0, 1) := by decide +kernel
theorem dX12_cut_117 : decode cX12_cut 117 = .ok (.iconst 0, 1) := by decide +kernel
theorem dX12_cut_118 : decode cX12_cut 118 = .ok (.iconst 0, 1) := by decide +kernel
theorem dX12_cut_119 : decode cX12_cut 119 = .ok (.iload_n 2, 1) := by decide +kernel
theorem dX12_cut_120 : decode cX12_cut 120 = .ok (.iload_n 2, 1) := by decide +kernel
theorem dX12_cut_121 : decode cX12_cut 121 = .ok (.invokevirtual 308, 3) := by decide +kernel
theorem dX12_cut_124 : decode cX12_cut 124 = .ok (.iinc 2 1, 3) := by decide +kernel
theorem dX12_cut_127 : decode cX12_cut 127 = .ok (.iload_n 2, 1) := by decide +kernel
theorem dX12_cut_128 : decode cX12_cut 128 = .ok (.aload_n 0, 1) := by decide +kernel
theorem dX12_cut_129 : decode cX12_cut 129 = .ok (.getfield 284, 3) := by decide +kernel
theorem dX12_cut_132 : decode cX12_cut 132 = .ok (.if_icmp .lt 4, 3) := by decide +kernel
theorem dX12_cut_135 : decode cX12_cut 135 = .ok (.return_, 1) := by decide +kernel
theorem dX12_cut_136 : decode cX12_cut 136 = .ok (.iinc 1 1, 3) := by decide +kernel
theorem dX12_cut_139 : decode cX12_cut 139 = .ok (.iload_n 1, 1) := by decide +kernel
theorem dX12_cut_140 : decode cX12_cut 140 = .ok (.bipush 120, 2) := by decide +kernel
theorem dX12_cut_142 : decode cX12_cut 142 = .ok (.if_icmp .le (-133), 3) := by decide +kernel
theorem dX12_cut_145 : decode cX12_cut 145 = .ok (.aload_n 0, 1) := by decide +kernel
theorem dX12_cut_146 : decode cX12_cut 146 = .ok (.bipush 7, 2) := by decide +kernel
theorem dX12_cut_148 : decode cX12_cut 148 = .ok (.iconst 0, 1) := by decide +kernel
theorem dX12_cut_149 : decode cX12_cut 149 = .ok (.iload_n 2, 1) := by decide +kernel
theorem dX12_cut_150 : decode cX12_cut 150 = .ok (.iload_n 2, 1) := by decide +kernel
theorem dX12_cut_151 : decode cX12_cut 151 = .ok (.invokevirtual 308, 3) := by decide +kernel
theorem dX12_cut_154 : decode cX12_cut 154 = .ok (.return_, 1) := by decide +kernel
theorem dX12_is__0 : decode cX12_is_ 0 = .ok (.aload_n 0, 1) := by decide +kernel
theorem dX12_is__1 : decode cX12_is_ 1 = .ok (.getfield 48, 3) := by decide +kernel
theorem dX12_is__4 : decode cX12_is_ 4 = .ok (.iload_n 1, 1) := by decide +kernel
theorem dX12_is__5 : decode cX12_is_ 5 = .ok (.iaload, 1) := by decide +kernel
theorem dX12_is__6 : decode cX12_is_ 6 = .ok (.iload_n 2, 1) := by decide +kernel
theorem dX12_is__7 : decode cX12_is_ 7 = .ok (.if_icmp .ne 17, 3) := by decide +kernel
theorem dX12_is__10 : decode cX12_is_ 10 = .ok (.aload_n 0, 1) := by decide +kernel
theorem dX12_is__11 : decode cX12_is_ 11 = .ok (.getfield 51, 3) := by decide +kernel
theorem dX12_is__14 : decode cX12_is_ 14 = .ok (.iload_n 1, 1) := by decide +kernel
theorem dX12_is__15 : decode cX12_is_ 15 = .ok (.iaload, 1) := by decide +kernel
theorem dX12_is__16 : decode cX12_is_ 16 = .ok (.iload_n 3, 1) := by decide +kernel
theorem dX12_is__17 : decode cX12_is_ 17 = .ok (.if_icmp .ne 7, 3) := by decide +kernel
theorem dX12_is__20 : decode cX12_is_ 20 = .ok (.iconst 1, 1) := by decide +kernel
theorem dX12_is__21 : decode cX12_is_ 21 = .ok (.goto 4, 3) := by decide +kernel
theorem dX12_is__24 : decode cX12_is_ 24 = .ok (.iconst 0, 1) := by decide +kernel
theorem dX12_is__25 : decode cX12_is_ 25 = .ok (.ireturn, 1) := by decide +kernel
theorem dX12_expect_0 : decode cX12_expect 0 = .ok (.aload_n 0, 1) := by decide +kernel
theorem dX12_expect_1 : decode cX12_expect 1 = .ok (.getfield 333, 3) := by decide +kernel
theorem dX12_expect_4 : decode cX12_expect 4 = .ok (.ifCond .le 4, 3) := by decide +kernel
theorem dX12_expect_7 : decode cX12_expect 7 = .ok (.return_, 1) := by decide +kernel
theorem dX12_expect_8 : decode cX12_expect 8 = .ok (.aload_n 0, 1) := by decide +kernel
theorem dX12_expect_9 : decode cX12_expect 9 = .ok (.getfield 48, 3) := by decide +kernel
theorem dX12_expect_12 : decode cX12_expect 12 = .ok (.aload_n 0, 1) := by decide +kernel
theorem dX12_expect_13 : decode cX12_expect 13 = .ok (.getfield 338, 3) := by decide +kernel
theorem dX12_expect_16 : decode cX12_expect 16 = .ok (.iaload, 1) := by decide +kernel
theorem dX12_expect_17 : decode cX12_expect 17 = .ok (.iload_n 1, 1) := by decide +kernel
theorem dX12_expect_18 : decode cX12_expect 18 = .ok (.if_icmp .eq 20, 3) := by decide +kernel
theorem dX12_expect_21 : decode cX12_expect 21 = .ok (.aload_n 0, 1) := by decide +kernel
theorem dX12_expect_22 : decode cX12_expect 22 = .ok (.iconst 1, 1) := by decide +kernel
theorem dX12_expect_23 : decode cX12_expect 23 = .ok (.aload_n 0, 1) := by decide +kernel
theorem dX12_expect_24 : decode cX12_expect 24 = .ok (.getfield 54, 3) := by decide +kernel
theorem dX12_expect_27 : decode cX12_expect 27 = .ok (.aload_n 0, 1) := by decide +kernel
theorem dX12_expect_28 : decode cX12_expect 28 = .ok (.getfield 338, 3) := by decide +kernel
theorem dX12_expect_31 : decode cX12_expect 31 = .ok (.iaload, 1) := by decide +kernel
theorem dX12_expect_32 : decode cX12_expect 32 = .ok (.invokevirtual 343, 3) := by decide +kernel
theorem dX12_expect_35 : decode cX12_expect 35 = .ok (.goto 34, 3) := by decide +kernel
theorem dX12_expect_38 : decode cX12_expect 38 = .ok (.aload_n 0, 1) := by decide +kernel
theorem dX12_expect_39 : decode cX12_expect 39 = .ok (.getfield 338, 3) := by decide +kernel
theorem dX12_expect_42 : decode cX12_expect 42 = .ok (.iconst 1, 1) := by decide +kernel
theorem dX12_expect_43 : decode cX12_expect 43 = .ok (.iadd, 1) := by decide +kernel
theorem dX12_expect_44 : decode cX12_expect 44 = .ok (.aload_n 0, 1) := by decide +kernel
theorem dX12_expect_45 : decode cX12_expect 45 = .ok (.getfield 293, 3) := by decide +kernel
theorem dX12_expect_48 : decode cX12_expect 48 = .ok (.if_icmp .ge 16, 3) := by decide +kernel
theorem dX12_expect_51 : decode cX12_expect 51 = .ok (.aload_n 0, 1) := by decide +kernel
theorem dX12_expect_52 : decode cX12_expect 52 = .ok (.dup, 1) := by decide +kernel
theorem dX12_expect_53 : decode cX12_expect 53 = .ok (.getfield 338, 3) := by decide +kernel
theorem dX12_expect_56 : decode cX12_expect 56 = .ok (.iconst 1, 1) := by decide +kernel
theorem dX12_expect_57 : decode cX12_expect 57 = .ok (.iadd, 1) := by decide +kernel
theorem dX12_expect_58 : decode cX12_expect 58 = .ok (.putfield 338, 3) := by decide +kernel
theorem dX12_expect_61 : decode cX12_expect 61 = .ok (.goto 8, 3) := by decide +kernel
theorem dX12_expect_64 : decode cX12_expect 64 = .ok (.aload_n 0, 1) := by decide +kernel
theorem dX12_expect_65 : decode cX12_expect 65 = .ok (.iconst 1, 1) := by decide +kernel
theorem dX12_expect_66 : decode cX12_expect 66 = .ok (.putfield 346, 3) := by decide +kernel
theorem dX12_expect_69 : decode cX12_expect 69 = .ok (.return_, 1) := by decide +kernel
theorem dX12_formWork_0 : decode cX12_formWork 0 = .ok (.aload_n 0, 1) := by decide +kernel
theorem dX12_formWork_1 : decode cX12_formWork 1 = .ok (.getfield 48, 3) := by decide +kernel
theorem dX12_formWork_4 : decode cX12_formWork 4 = .ok (.aload_n 0, 1) := by decide +kernel
theorem dX12_formWork_5 : decode cX12_formWork 5 = .ok (.getfield 338, 3) := by decide +kernel
theorem dX12_formWork_8 : decode cX12_formWork 8 = .ok (.iaload, 1) := by decide +kernel
theorem dX12_formWork_9 : decode cX12_formWork 9 = .ok (.iconst 2, 1) := by decide +kernel
theorem dX12_formWork_10 : decode cX12_formWork 10 = .ok (.if_icmp .ne 20, 3) := by decide +kernel
theorem dX12_formWork_13 : decode cX12_formWork 13 = .ok (.aload_n 0, 1) := by decide +kernel
theorem dX12_formWork_14 : decode cX12_formWork 14 = .ok (.dup, 1) := by decide +kernel
theorem dX12_formWork_15 : decode cX12_formWork 15 = .ok (.getfield 338, 3) := by decide +kernel
theorem dX12_formWork_18 : decode cX12_formWork 18 = .ok (.iconst 1, 1) := by decide +kernel
theorem dX12_formWork_19 : decode cX12_formWork 19 = .ok (.iadd, 1) := by decide +kernel
theorem dX12_formWork_20 : decode cX12_formWork 20 = .ok (.putfield 338, 3) := by decide +kernel
theorem dX12_formWork_23 : decode cX12_formWork 23 = .ok (.aload_n 0, 1) := by decide +kernel
theorem dX12_formWork_24 : decode cX12_formWork 24 = .ok (.invokevirtual 370, 3) := by decide +kernel
theorem dX12_formWork_27 : decode cX12_formWork 27 = .ok (.goto 133, 3) := by decide +kernel
theorem dX12_formWork_30 : decode cX12_formWork 30 = .ok (.aload_n 0, 1) := by decide +kernel
theorem dX12_formWork_31 : decode cX12_formWork 31 = .ok (.getfield 48, 3) := by decide +kernel
theorem dX12_formWork_34 : decode cX12_formWork 34 = .ok (.aload_n 0, 1) := by decide +kernel
theorem dX12_formWork_35 : decode cX12_formWork 35 = .ok (.getfield 338, 3) := by decide +kernel
theorem dX12_formWork_38 : decode cX12_formWork 38 = .ok (.iaload, 1) := by decide +kernel
theorem dX12_formWork_39 : decode cX12_formWork 39 = .ok (.iconst 5, 1) := by decide +kernel
theorem dX12_formWork_40 : decode cX12_formWork 40 = .ok (.if_icmp .ne 120, 3) := by decide +kernel
theorem dX12_formWork_43 : decode cX12_formWork 43 = .ok (.aload_n 0, 1) := by decide +kernel
theorem dX12_formWork_44 : decode cX12_formWork 44 = .ok (.getfield 51, 3) := by decide +kernel
theorem dX12_formWork_47 : decode cX12_formWork 47 = .ok (.aload_n 0, 1) := by decide +kernel
theorem dX12_formWork_48 : decode cX12_formWork 48 = .ok (.getfield 338, 3) := by decide +kernel
theorem dX12_formWork_51 : decode cX12_formWork 51 = .ok (.iaload, 1) := by decide +kernel
theorem dX12_formWork_52 : decode cX12_formWork 52 = .ok (.istore_n 1, 1) := by decide +kernel
theorem dX12_formWork_53 : decode cX12_formWork 53 = .ok (.aload_n 0, 1) := by decide +kernel
theorem dX12_formWork_54 : decode cX12_formWork 54 = .ok (.dup, 1) := by decide +kernel
theorem dX12_formWork_55 : decode cX12_formWork 55 = .ok (.getfield 338, 3) := by decide +kernel
theorem dX12_formWork_58 : decode cX12_formWork 58 = .ok (.iconst 1, 1) := by decide +kernel
theorem dX12_formWork_59 : decode cX12_formWork 59 = .ok (.iadd, 1) := by decide +kernel
theorem dX12_formWork_60 : decode cX12_formWork 60 = .ok (.putfield 338, 3) := by decide +kernel
theorem dX12_formWork_63 : decode cX12_formWork 63 = .ok (.iload_n 1, 1) := by decide +kernel
theorem dX12_formWork_64 : decode cX12_formWork 64 = .ok (.iconst 4, 1) := by decide +kernel
theorem dX12_formWork_65 : decode cX12_formWork 65 = .ok (.if_icmp .ne 11, 3) := by decide +kernel
theorem dX12_formWork_68 : decode cX12_formWork 68 = .ok (.aload_n 0, 1) := by decide +kernel
theorem dX12_formWork_69 : decode cX12_formWork 69 = .ok (.iconst 4, 1) := by decide +kernel
theorem dX12_formWork_70 : decode cX12_formWork 70 = .ok (.invokevirtual 373, 3) := by decide +kernel
theorem dX12_formWork_73 : decode cX12_formWork 73 = .ok (.goto 87, 3) := by decide +kernel
theorem dX12_formWork_76 : decode cX12_formWork 76 = .ok (.iload_n 1, 1) := by decide +kernel
theorem dX12_formWork_77 : decode cX12_formWork 77 = .ok (.bipush 7, 2) := by decide +kernel
theorem dX12_formWork_79 : decode cX12_formWork 79 = .ok (.if_icmp .ge 81, 3) := by decide +kernel
theorem dX12_formWork_82 : decode cX12_formWork 82 = .ok (.aload_n 0, 1) := by decide +kernel
theorem dX12_formWork_83 : decode cX12_formWork 83 = .ok (.iconst 0, 1) := by decide +kernel
theorem dX12_formWork_84 : decode cX12_formWork 84 = .ok (.invokevirtual 355, 3) := by decide +kernel
theorem dX12_formWork_87 : decode cX12_formWork 87 = .ok (.iload_n 1, 1) := by decide +kernel
theorem dX12_formWork_88 : decode cX12_formWork 88 = .ok (.iconst 2, 1) := by decide +kernel
theorem dX12_formWork_89 : decode cX12_formWork 89 = .ok (.if_icmp .eq 8, 3) := by decide +kernel
theorem dX12_formWork_92 : decode cX12_formWork 92 = .ok (.iload_n 1, 1) := by decide +kernel
theorem dX12_formWork_93 : decode cX12_formWork 93 = .ok (.iconst 3, 1) := by decide +kernel
theorem dX12_formWork_94 : decode cX12_formWork 94 = .ok (.if_icmp .ne 7, 3) := by decide +kernel
theorem dX12_formWork_97 : decode cX12_formWork 97 = .ok (.iconst 1, 1) := by decide +kernel
theorem dX12_formWork_98 : decode cX12_formWork 98 = .ok (.goto 4, 3) := by decide +kernel
theorem dX12_formWork_101 : decode cX12_formWork 101 = .ok (.iconst 0, 1) := by decide +kernel
theorem dX12_formWork_102 : decode cX12_formWork 102 = .ok (.istore_n 2, 1) := by decide +kernel
theorem dX12_formWork_103 : decode cX12_formWork 103 = .ok (.iload_n 1, 1) := by decide +kernel
theorem dX12_formWork_104 : decode cX12_formWork 104 = .ok (.iconst 5, 1) := by decide +kernel
theorem dX12_formWork_105 : decode cX12_formWork 105 = .ok (.if_icmp .ne 17, 3) := by decide +kernel
theorem dX12_formWork_108 : decode cX12_formWork 108 = .ok (.aload_n 0, 1) := by decide +kernel
theorem dX12_formWork_109 : decode cX12_formWork 109 = .ok (.bipush 44, 2) := by decide +kernel
theorem dX12_formWork_111 : decode cX12_formWork 111 = .ok (.invokevirtual 358, 3) := by decide +kernel
theorem dX12_formWork_114 : decode cX12_formWork 114 = .ok (.ifCond .eq 8, 3) := by decide +kernel
theorem dX12_formWork_117 : decode cX12_formWork 117 = .ok (.aload_n 0, 1) := by decide +kernel
theorem dX12_formWork_118 : decode cX12_formWork 118 = .ok (.iconst 0, 1) := by decide +kernel
theorem dX12_formWork_119 : decode cX12_formWork 119 = .ok (.invokevirtual 355, 3) := by decide +kernel
theorem dX12_formWork_122 : decode cX12_formWork 122 = .ok (.aload_n 0, 1) := by decide +kernel
theorem dX12_formWork_123 : decode cX12_formWork 123 = .ok (.getfield 333, 3) := by decide +kernel
theorem dX12_formWork_126 : decode cX12_formWork 126 = .ok (.ifCond .ne 34, 3) := by decide +kernel
theorem dX12_formWork_129 : decode cX12_formWork 129 = .ok (.iload_n 2, 1) := by decide +kernel
theorem dX12_formWork_130 : decode cX12_formWork 130 = .ok (.ifCond .eq 30, 3) := by decide +kernel
theorem dX12_formWork_133 : decode cX12_formWork 133 = .ok (.aload_n 0, 1) := by decide +kernel
theorem dX12_formWork_134 : decode cX12_formWork 134 = .ok (.bipush 44, 2) := by decide +kernel
theorem dX12_formWork_136 : decode cX12_formWork 136 = .ok (.invokevirtual 349, 3) := by decide +kernel
theorem dX12_formWork_139 : decode cX12_formWork 139 = .ok (.ifCond .eq 21, 3) := by decide +kernel
theorem dX12_formWork_142 : decode cX12_formWork 142 = .ok (.aload_n 0, 1) := by decide +kernel
theorem dX12_formWork_143 : decode cX12_formWork 143 = .ok (.dup, 1) := by decide +kernel
theorem dX12_formWork_144 : decode cX12_formWork 144 = .ok (.getfield 338, 3) := by decide +kernel
theorem dX12_formWork_147 : decode cX12_formWork 147 = .ok (.iconst 1, 1) := by decide +kernel
theorem dX12_formWork_148 : decode cX12_formWork 148 = .ok (.iadd, 1) := by decide +kernel
theorem dX12_formWork_149 : decode cX12_formWork 149 = .ok (.putfield 338, 3) := by decide +kernel
theorem dX12_formWork_152 : decode cX12_formWork 152 = .ok (.aload_n 0, 1) := by decide +kernel
theorem dX12_formWork_153 : decode cX12_formWork 153 = .ok (.iconst 0, 1) := by decide +kernel
theorem dX12_formWork_154 : decode cX12_formWork 154 = .ok (.invokevirtual 355, 3) := by decide +kernel
theorem dX12_formWork_157 : decode cX12_formWork 157 = .ok (.goto (-35), 3) := by decide +kernel
theorem dX12_formWork_160 : decode cX12_formWork 160 = .ok (.return_, 1) := by decide +kernel
theorem dX12_formLine_0 : decode cX12_formLine 0 = .ok (.aload_n 0, 1) := by decide +kernel
theorem dX12_formLine_1 : decode cX12_formLine 1 = .ok (.getfield 48, 3) := by decide +kernel
theorem dX12_formLine_4 : decode cX12_formLine 4 = .ok (.aload_n 0, 1) := by decide +kernel
theorem dX12_formLine_5 : decode cX12_formLine 5 = .ok (.getfield 338, 3) := by decide +kernel
theorem dX12_formLine_8 : decode cX12_formLine 8 = .ok (.iaload, 1) := by decide +kernel
theorem dX12_formLine_9 : decode cX12_formLine 9 = .ok (.iconst 1, 1) := by decide +kernel
theorem dX12_formLine_10 : decode cX12_formLine 10 = .ok (.if_icmp .ne 53, 3) := by decide +kernel
theorem dX12_formLine_13 : decode cX12_formLine 13 = .ok (.aload_n 0, 1) := by decide +kernel
theorem dX12_formLine_14 : decode cX12_formLine 14 = .ok (.dup, 1) := by decide +kernel
theorem dX12_formLine_15 : decode cX12_formLine 15 = .ok (.getfield 338, 3) := by decide +kernel
theorem dX12_formLine_18 : decode cX12_formLine 18 = .ok (.iconst 1, 1) := by decide +kernel
theorem dX12_formLine_19 : decode cX12_formLine 19 = .ok (.iadd, 1) := by decide +kernel
theorem dX12_formLine_20 : decode cX12_formLine 20 = .ok (.putfield 338, 3) := by decide +kernel
theorem dX12_formLine_23 : decode cX12_formLine 23 = .ok (.aload_n 0, 1) := by decide +kernel
theorem dX12_formLine_24 : decode cX12_formLine 24 = .ok (.bipush 61, 2) := by decide +kernel
theorem dX12_formLine_26 : decode cX12_formLine 26 = .ok (.invokevirtual 349, 3) := by decide +kernel
theorem dX12_formLine_29 : decode cX12_formLine 29 = .ok (.ifCond .eq 24, 3) := by decide +kernel
theorem dX12_formLine_32 : decode cX12_formLine 32 = .ok (.aload_n 0, 1) := by decide +kernel
theorem dX12_formLine_33 : decode cX12_formLine 33 = .ok (.dup, 1) := by decide +kernel
theorem dX12_formLine_34 : decode cX12_formLine 34 = .ok (.getfield 338, 3) := by decide +kernel
theorem dX12_formLine_37 : decode cX12_formLine 37 = .ok (.iconst 1, 1) := by decide +kernel
theorem dX12_formLine_38 : decode cX12_formLine 38 = .ok (.iadd, 1) := by decide +kernel
theorem dX12_formLine_39 : decode cX12_formLine 39 = .ok (.putfield 338, 3) := by decide +kernel
theorem dX12_formLine_42 : decode cX12_formLine 42 = .ok (.aload_n 0, 1) := by decide +kernel
theorem dX12_formLine_43 : decode cX12_formLine 43 = .ok (.iconst 0, 1) := by decide +kernel
theorem dX12_formLine_44 : decode cX12_formLine 44 = .ok (.invokevirtual 355, 3) := by decide +kernel
theorem dX12_formLine_47 : decode cX12_formLine 47 = .ok (.aload_n 0, 1) := by decide +kernel
theorem dX12_formLine_48 : decode cX12_formLine 48 = .ok (.iconst 0, 1) := by decide +kernel
theorem dX12_formLine_49 : decode cX12_formLine 49 = .ok (.invokevirtual 373, 3) := by decide +kernel
theorem dX12_formLine_52 : decode cX12_formLine 52 = .ok (.return_, 1) := by decide +kernel
theorem dX12_formLine_53 : decode cX12_formLine 53 = .ok (.aload_n 0, 1) := by decide +kernel
theorem dX12_formLine_54 : decode cX12_formLine 54 = .ok (.bipush 58, 2) := by decide +kernel
theorem dX12_formLine_56 : decode cX12_formLine 56 = .ok (.invokevirtual 358, 3) := by decide +kernel
theorem dX12_formLine_59 : decode cX12_formLine 59 = .ok (.ifCond .ne 4, 3) := by decide +kernel
theorem dX12_formLine_62 : decode cX12_formLine 62 = .ok (.return_, 1) := by decide +kernel
theorem dX12_formLine_63 : decode cX12_formLine 63 = .ok (.aload_n 0, 1) := by decide +kernel
theorem dX12_formLine_64 : decode cX12_formLine 64 = .ok (.invokevirtual 376, 3) := by decide +kernel
theorem dX12_formLine_67 : decode cX12_formLine 67 = .ok (.aload_n 0, 1) := by decide +kernel
theorem dX12_formLine_68 : decode cX12_formLine 68 = .ok (.iconst 0, 1) := by decide +kernel
theorem dX12_formLine_69 : decode cX12_formLine 69 = .ok (.invokevirtual 373, 3) := by decide +kernel
theorem dX12_formLine_72 : decode cX12_formLine 72 = .ok (.return_, 1) := by decide +kernel
theorem dX12_isOut_0 : decode cX12_isOut 0 = .ok (.iconst 0, 1) := by decide +kernel
theorem dX12_isOut_1 : decode cX12_isOut 1 = .ok (.istore_n 2, 1) := by decide +kernel
theorem dX12_isOut_2 : decode cX12_isOut 2 = .ok (.iload_n 2, 1) := by decide +kernel
theorem dX12_isOut_3 : decode cX12_isOut 3 = .ok (.iload_n 1, 1) := by decide +kernel
theorem dX12_isOut_4 : decode cX12_isOut 4 = .ok (.if_icmp .ge 22, 3) := by decide +kernel
theorem dX12_isOut_7 : decode cX12_isOut 7 = .ok (.aload_n 0, 1) := by decide +kernel
theorem dX12_isOut_8 : decode cX12_isOut 8 = .ok (.getfield 75, 3) := by decide +kernel
theorem dX12_isOut_11 : decode cX12_isOut 11 = .ok (.iload_n 2, 1) := by decide +kernel
theorem dX12_isOut_12 : decode cX12_isOut 12 = .ok (.iaload, 1) := by decide +kernel
theorem dX12_isOut_13 : decode cX12_isOut 13 = .ok (.iconst 4, 1) := by decide +kernel
theorem dX12_isOut_14 : decode cX12_isOut 14 = .ok (.irem, 1) := by decide +kernel
theorem dX12_isOut_15 : decode cX12_isOut 15 = .ok (.ifCond .eq 5, 3) := by decide +kernel
theorem dX12_isOut_18 : decode cX12_isOut 18 = .ok (.iconst 1, 1) := by decide +kernel
theorem dX12_isOut_19 : decode cX12_isOut 19 = .ok (.ireturn, 1) := by decide +kernel
theorem dX12_isOut_20 : decode cX12_isOut 20 = .ok (.iinc 2 1, 3) := by decide +kernel
theorem dX12_isOut_23 : decode cX12_isOut 23 = .ok (.goto (-21), 3) := by decide +kernel
theorem dX12_isOut_26 : decode cX12_isOut 26 = .ok (.iconst 0, 1) := by decide +kernel
theorem dX12_isOut_27 : decode cX12_isOut 27 = .ok (.ireturn, 1) := by decide +kernel
theorem dX12_isFork_0 : decode cX12_isFork 0 = .ok (.aload_n 0, 1) := by decide +kernel
theorem dX12_isFork_1 : decode cX12_isFork 1 = .ok (.getfield 48, 3) := by decide +kernel
theorem dX12_isFork_4 : decode cX12_isFork 4 = .ok (.aload_n 0, 1) := by decide +kernel
theorem dX12_isFork_5 : decode cX12_isFork 5 = .ok (.getfield 338, 3) := by decide +kernel
theorem dX12_isFork_8 : decode cX12_isFork 8 = .ok (.iaload, 1) := by decide +kernel
theorem dX12_isFork_9 : decode cX12_isFork 9 = .ok (.iconst 5, 1) := by decide +kernel
theorem dX12_isFork_10 : decode cX12_isFork 10 = .ok (.if_icmp .ne 20, 3) := by decide +kernel
theorem dX12_isFork_13 : decode cX12_isFork 13 = .ok (.aload_n 0, 1) := by decide +kernel
theorem dX12_isFork_14 : decode cX12_isFork 14 = .ok (.getfield 51, 3) := by decide +kernel
theorem dX12_isFork_17 : decode cX12_isFork 17 = .ok (.aload_n 0, 1) := by decide +kernel
theorem dX12_isFork_18 : decode cX12_isFork 18 = .ok (.getfield 338, 3) := by decide +kernel
theorem dX12_isFork_21 : decode cX12_isFork 21 = .ok (.iaload, 1) := by decide +kernel
theorem dX12_isFork_22 : decode cX12_isFork 22 = .ok (.iconst 5, 1) := by decide +kernel
theorem dX12_isFork_23 : decode cX12_isFork 23 = .ok (.if_icmp .le 7, 3) := by decide +kernel
theorem dX12_isFork_26 : decode cX12_isFork 26 = .ok (.iconst 1, 1) := by decide +kernel
theorem dX12_isFork_27 : decode cX12_isFork 27 = .ok (.goto 4, 3) := by decide +kernel
theorem dX12_isFork_30 : decode cX12_isFork 30 = .ok (.iconst 0, 1) := by decide +kernel
theorem dX12_isFork_31 : decode cX12_isFork 31 = .ok (.ireturn, 1) := by decide +kernel
theorem dX12_lineOnce_0 : decode cX12_lineOnce 0 = .ok (.aload_n 0, 1) := by decide +kernel
theorem dX12_lineOnce_1 : decode cX12_lineOnce 1 = .ok (.getfield 48, 3) := by decide +kernel
theorem dX12_lineOnce_4 : decode cX12_lineOnce 4 = .ok (.aload_n 0, 1) := by decide +kernel
theorem dX12_lineOnce_5 : decode cX12_lineOnce 5 = .ok (.getfield 338, 3) := by decide +kernel
theorem dX12_lineOnce_8 : decode cX12_lineOnce 8 = .ok (.iaload, 1) := by decide +kernel
theorem dX12_lineOnce_9 : decode cX12_lineOnce 9 = .ok (.iconst 1, 1) := by decide +kernel
theorem dX12_lineOnce_10 : decode cX12_lineOnce 10 = .ok (.if_icmp .ne 24, 3) := by decide +kernel
theorem dX12_lineOnce_13 : decode cX12_lineOnce 13 = .ok (.aload_n 0, 1) := by decide +kernel
theorem dX12_lineOnce_14 : decode cX12_lineOnce 14 = .ok (.aload_n 0, 1) := by decide +kernel
theorem dX12_lineOnce_15 : decode cX12_lineOnce 15 = .ok (.getfield 338, 3) := by decide +kernel
theorem dX12_lineOnce_18 : decode cX12_lineOnce 18 = .ok (.iconst 1, 1) := by decide +kernel
theorem dX12_lineOnce_19 : decode cX12_lineOnce 19 = .ok (.iadd, 1) := by decide +kernel
theorem dX12_lineOnce_20 : decode cX12_lineOnce 20 = .ok (.bipush 6, 2) := by decide +kernel
theorem dX12_lineOnce_22 : decode cX12_lineOnce 22 = .ok (.bipush 58, 2) := by decide +kernel
theorem dX12_lineOnce_24 : decode cX12_lineOnce 24 = .ok (.invokevirtual 341, 3) := by decide +kernel
theorem dX12_lineOnce_27 : decode cX12_lineOnce 27 = .ok (.ifCond .eq 7, 3) := by decide +kernel
theorem dX12_lineOnce_30 : decode cX12_lineOnce 30 = .ok (.iconst 1, 1) := by decide +kernel
theorem dX12_lineOnce_31 : decode cX12_lineOnce 31 = .ok (.goto 4, 3) := by decide +kernel
theorem dX12_lineOnce_34 : decode cX12_lineOnce 34 = .ok (.iconst 0, 1) := by decide +kernel
theorem dX12_lineOnce_35 : decode cX12_lineOnce 35 = .ok (.istore_n 1, 1) := by decide +kernel
theorem dX12_lineOnce_36 : decode cX12_lineOnce 36 = .ok (.aload_n 0, 1) := by decide +kernel
theorem dX12_lineOnce_37 : decode cX12_lineOnce 37 = .ok (.getfield 338, 3) := by decide +kernel
theorem dX12_lineOnce_40 : decode cX12_lineOnce 40 = .ok (.istore_n 2, 1) := by decide +kernel
theorem dX12_lineOnce_41 : decode cX12_lineOnce 41 = .ok (.iload_n 1, 1) := by decide +kernel
theorem dX12_lineOnce_42 : decode cX12_lineOnce 42 = .ok (.ifCond .eq 13, 3) := by decide +kernel
theorem dX12_lineOnce_45 : decode cX12_lineOnce 45 = .ok (.aload_n 0, 1) := by decide +kernel
theorem dX12_lineOnce_46 : decode cX12_lineOnce 46 = .ok (.dup, 1) := by decide +kernel
theorem dX12_lineOnce_47 : decode cX12_lineOnce 47 = .ok (.getfield 338, 3) := by decide +kernel
theorem dX12_lineOnce_50 : decode cX12_lineOnce 50 = .ok (.iconst 2, 1) := by decide +kernel
theorem dX12_lineOnce_51 : decode cX12_lineOnce 51 = .ok (.iadd, 1) := by decide +kernel
theorem dX12_lineOnce_52 : decode cX12_lineOnce 52 = .ok (.putfield 338, 3) := by decide +kernel
theorem dX12_lineOnce_55 : decode cX12_lineOnce 55 = .ok (.aload_n 0, 1) := by decide +kernel
theorem dX12_lineOnce_56 : decode cX12_lineOnce 56 = .ok (.invokevirtual 420, 3) := by decide +kernel
theorem dX12_lineOnce_59 : decode cX12_lineOnce 59 = .ok (.istore_n 3, 1) := by decide +kernel
theorem dX12_lineOnce_60 : decode cX12_lineOnce 60 = .ok (.iload_n 3, 1) := by decide +kernel
theorem dX12_lineOnce_61 : decode cX12_lineOnce 61 = .ok (.ifCond .eq 30, 3) := by decide +kernel
theorem dX12_lineOnce_64 : decode cX12_lineOnce 64 = .ok (.aload_n 0, 1) := by decide +kernel
theorem dX12_lineOnce_65 : decode cX12_lineOnce 65 = .ok (.getfield 51, 3) := by decide +kernel
theorem dX12_lineOnce_68 : decode cX12_lineOnce 68 = .ok (.aload_n 0, 1) := by decide +kernel
theorem dX12_lineOnce_69 : decode cX12_lineOnce 69 = .ok (.getfield 338, 3) := by decide +kernel
theorem dX12_lineOnce_72 : decode cX12_lineOnce 72 = .ok (.iaload, 1) := by decide +kernel
theorem dX12_lineOnce_73 : decode cX12_lineOnce 73 = .ok (.bipush 6, 2) := by decide +kernel
theorem dX12_lineOnce_75 : decode cX12_lineOnce 75 = .ok (.if_icmp .le 16, 3) := by decide +kernel
theorem dX12_lineOnce_78 : decode cX12_lineOnce 78 = .ok (.iconst 0, 1) := by decide +kernel
theorem dX12_lineOnce_79 : decode cX12_lineOnce 79 = .ok (.aload_n 0, 1) := by decide +kernel
theorem dX12_lineOnce_80 : decode cX12_lineOnce 80 = .ok (.getfield 407, 3) := by decide +kernel
theorem dX12_lineOnce_83 : decode cX12_lineOnce 83 = .ok (.iconst 1, 1) := by decide +kernel
theorem dX12_lineOnce_84 : decode cX12_lineOnce 84 = .ok (.isub, 1) := by decide +kernel
theorem dX12_lineOnce_85 : decode cX12_lineOnce 85 = .ok (.invokestatic 423, 3) := by decide +kernel
theorem dX12_lineOnce_88 : decode cX12_lineOnce 88 = .ok (.goto 7, 3) := by decide +kernel
theorem dX12_lineOnce_91 : decode cX12_lineOnce 91 = .ok (.aload_n 0, 1) := by decide +kernel
theorem dX12_lineOnce_92 : decode cX12_lineOnce 92 = .ok (.getfield 407, 3) := by decide +kernel
theorem dX12_lineOnce_95 : decode cX12_lineOnce 95 = .ok (.istore 4, 2) := by decide +kernel
theorem dX12_lineOnce_97 : decode cX12_lineOnce 97 = .ok (.aload_n 0, 1) := by decide +kernel
theorem dX12_lineOnce_98 : decode cX12_lineOnce 98 = .ok (.iload 4, 2) := by decide +kernel
theorem dX12_lineOnce_100 : decode cX12_lineOnce 100 = .ok (.invokevirtual 410, 3) := by decide +kernel
theorem dX12_lineOnce_103 : decode cX12_lineOnce 103 = .ok (.istore 5, 2) := by decide +kernel
theorem dX12_lineOnce_105 : decode cX12_lineOnce 105 = .ok (.aload_n 0, 1) := by decide +kernel
theorem dX12_lineOnce_106 : decode cX12_lineOnce 106 = .ok (.getfield 72, 3) := by decide +kernel
theorem dX12_lineOnce_109 : decode cX12_lineOnce 109 = .ok (.aload_n 0, 1) := by decide +kernel
theorem dX12_lineOnce_110 : decode cX12_lineOnce 110 = .ok (.getfield 428, 3) := by decide +kernel
theorem dX12_lineOnce_113 : decode cX12_lineOnce 113 = .ok (.iload 5, 2) := by decide +kernel
theorem dX12_lineOnce_115 : decode cX12_lineOnce 115 = .ok (.bastore, 1) := by decide +kernel
theorem dX12_lineOnce_116 : decode cX12_lineOnce 116 = .ok (.iload_n 1, 1) := by decide +kernel
theorem dX12_lineOnce_117 : decode cX12_lineOnce 117 = .ok (.ifCond .eq 17, 3) := by decide +kernel
theorem dX12_lineOnce_120 : decode cX12_lineOnce 120 = .ok (.iload 5, 2) := by decide +kernel
theorem dX12_lineOnce_122 : decode cX12_lineOnce 122 = .ok (.ifCond .ne 12, 3) := by decide +kernel
theorem dX12_lineOnce_125 : decode cX12_lineOnce 125 = .ok (.aload_n 0, 1) := by decide +kernel
theorem dX12_lineOnce_126 : decode cX12_lineOnce 126 = .ok (.iload_n 2, 1) := by decide +kernel
theorem dX12_lineOnce_127 : decode cX12_lineOnce 127 = .ok (.aload_n 0, 1) := by decide +kernel
theorem dX12_lineOnce_128 : decode cX12_lineOnce 128 = .ok (.getfield 388, 3) := by decide +kernel
theorem dX12_lineOnce_131 : decode cX12_lineOnce 131 = .ok (.invokevirtual 431, 3) := by decide +kernel
theorem dX12_lineOnce_134 : decode cX12_lineOnce 134 = .ok (.aload_n 0, 1) := by decide +kernel
theorem dX12_lineOnce_135 : decode cX12_lineOnce 135 = .ok (.getfield 333, 3) := by decide +kernel
theorem dX12_lineOnce_138 : decode cX12_lineOnce 138 = .ok (.ifCond .le 4, 3) := by decide +kernel
theorem dX12_lineOnce_141 : decode cX12_lineOnce 141 = .ok (.return_, 1) := by decide +kernel
theorem dX12_lineOnce_142 : decode cX12_lineOnce 142 = .ok (.iload_n 3, 1) := by decide +kernel
theorem dX12_lineOnce_143 : decode cX12_lineOnce 143 = .ok (.ifCond .eq 10, 3) := by decide +kernel
theorem dX12_lineOnce_146 : decode cX12_lineOnce 146 = .ok (.aload_n 0, 1) := by decide +kernel
theorem dX12_lineOnce_147 : decode cX12_lineOnce 147 = .ok (.invokevirtual 434, 3) := by decide +kernel
theorem dX12_lineOnce_150 : decode cX12_lineOnce 150 = .ok (.goto 12, 3) := by decide +kernel
theorem dX12_lineOnce_153 : decode cX12_lineOnce 153 = .ok (.iload 5, 2) := by decide +kernel
theorem dX12_lineOnce_155 : decode cX12_lineOnce 155 = .ok (.ifCond .ne 7, 3) := by decide +kernel
theorem dX12_lineOnce_158 : decode cX12_lineOnce 158 = .ok (.aload_n 0, 1) := by decide +kernel
theorem dX12_lineOnce_159 : decode cX12_lineOnce 159 = .ok (.invokevirtual 437, 3) := by decide +kernel
theorem dX12_lineOnce_162 : decode cX12_lineOnce 162 = .ok (.return_, 1) := by decide +kernel
theorem dX12_actLine_0 : decode cX12_actLine 0 = .ok (.aload_n 0, 1) := by decide +kernel
theorem dX12_actLine_1 : decode cX12_actLine 1 = .ok (.aload_n 0, 1) := by decide +kernel
theorem dX12_actLine_2 : decode cX12_actLine 2 = .ok (.getfield 338, 3) := by decide +kernel
theorem dX12_actLine_5 : decode cX12_actLine 5 = .ok (.putfield 440, 3) := by decide +kernel
theorem dX12_actLine_8 : decode cX12_actLine 8 = .ok (.aload_n 0, 1) := by decide +kernel
theorem dX12_actLine_9 : decode cX12_actLine 9 = .ok (.getfield 48, 3) := by decide +kernel
theorem dX12_actLine_12 : decode cX12_actLine 12 = .ok (.aload_n 0, 1) := by decide +kernel
theorem dX12_actLine_13 : decode cX12_actLine 13 = .ok (.getfield 338, 3) := by decide +kernel
theorem dX12_actLine_16 : decode cX12_actLine 16 = .ok (.iaload, 1) := by decide +kernel
theorem dX12_actLine_17 : decode cX12_actLine 17 = .ok (.iconst 1, 1) := by decide +kernel
theorem dX12_actLine_18 : decode cX12_actLine 18 = .ok (.if_icmp .ne 75, 3) := by decide +kernel
theorem dX12_actLine_21 : decode cX12_actLine 21 = .ok (.aload_n 0, 1) := by decide +kernel
theorem dX12_actLine_22 : decode cX12_actLine 22 = .ok (.getfield 404, 3) := by decide +kernel
theorem dX12_actLine_25 : decode cX12_actLine 25 = .ok (.ifCond .ne 28, 3) := by decide +kernel
theorem dX12_actLine_28 : decode cX12_actLine 28 = .ok (.aload_n 0, 1) := by decide +kernel
theorem dX12_actLine_29 : decode cX12_actLine 29 = .ok (.aload_n 0, 1) := by decide +kernel
theorem dX12_actLine_30 : decode cX12_actLine 30 = .ok (.getfield 440, 3) := by decide +kernel
theorem dX12_actLine_33 : decode cX12_actLine 33 = .ok (.invokevirtual 382, 3) := by decide +kernel
theorem dX12_actLine_36 : decode cX12_actLine 36 = .ok (.ifCond .lt 17, 3) := by decide +kernel
theorem dX12_actLine_39 : decode cX12_actLine 39 = .ok (.aload_n 0, 1) := by decide +kernel
theorem dX12_actLine_40 : decode cX12_actLine 40 = .ok (.iconst 3, 1) := by decide +kernel
theorem dX12_actLine_41 : decode cX12_actLine 41 = .ok (.aload_n 0, 1) := by decide +kernel
theorem dX12_actLine_42 : decode cX12_actLine 42 = .ok (.getfield 54, 3) := by decide +kernel
theorem dX12_actLine_45 : decode cX12_actLine 45 = .ok (.aload_n 0, 1) := by decide +kernel
theorem dX12_actLine_46 : decode cX12_actLine 46 = .ok (.getfield 440, 3) := by decide +kernel
theorem dX12_actLine_49 : decode cX12_actLine 49 = .ok (.iaload, 1) := by decide +kernel
theorem dX12_actLine_50 : decode cX12_actLine 50 = .ok (.invokevirtual 343, 3) := by decide +kernel
theorem dX12_actLine_53 : decode cX12_actLine 53 = .ok (.aload_n 0, 1) := by decide +kernel
theorem dX12_actLine_54 : decode cX12_actLine 54 = .ok (.dup, 1) := by decide +kernel
theorem dX12_actLine_55 : decode cX12_actLine 55 = .ok (.getfield 338, 3) := by decide +kernel
theorem dX12_actLine_58 : decode cX12_actLine 58 = .ok (.iconst 2, 1) := by decide +kernel
theorem dX12_actLine_59 : decode cX12_actLine 59 = .ok (.iadd, 1) := by decide +kernel
theorem dX12_actLine_60 : decode cX12_actLine 60 = .ok (.putfield 338, 3) := by decide +kernel
theorem dX12_actLine_63 : decode cX12_actLine 63 = .ok (.aload_n 0, 1) := by decide +kernel
theorem dX12_actLine_64 : decode cX12_actLine 64 = .ok (.ldc_w 415, 3) := by decide +kernel
theorem dX12_actLine_67 : decode cX12_actLine 67 = .ok (.ldc_w 416, 3) := by decide +kernel
theorem dX12_actLine_70 : decode cX12_actLine 70 = .ok (.invokevirtual 417, 3) := by decide +kernel
theorem dX12_actLine_73 : decode cX12_actLine 73 = .ok (.istore_n 1, 1) := by decide +kernel
theorem dX12_actLine_74 : decode cX12_actLine 74 = .ok (.aload_n 0, 1) := by decide +kernel
theorem dX12_actLine_75 : decode cX12_actLine 75 = .ok (.getfield 333, 3) := by decide +kernel
theorem dX12_actLine_78 : decode cX12_actLine 78 = .ok (.ifCond .ne 12, 3) := by decide +kernel
theorem dX12_actLine_81 : decode cX12_actLine 81 = .ok (.aload_n 0, 1) := by decide +kernel
theorem dX12_actLine_82 : decode cX12_actLine 82 = .ok (.aload_n 0, 1) := by decide +kernel
theorem dX12_actLine_83 : decode cX12_actLine 83 = .ok (.getfield 440, 3) := by decide +kernel
theorem dX12_actLine_86 : decode cX12_actLine 86 = .ok (.iload_n 1, 1) := by decide +kernel
theorem dX12_actLine_87 : decode cX12_actLine 87 = .ok (.invokevirtual 431, 3) := by decide +kernel
theorem dX12_actLine_90 : decode cX12_actLine 90 = .ok (.goto 59, 3) := by decide +kernel
theorem dX12_actLine_93 : decode cX12_actLine 93 = .ok (.aload_n 0, 1) := by decide +kernel
theorem dX12_actLine_94 : decode cX12_actLine 94 = .ok (.getfield 48, 3) := by decide +kernel
theorem dX12_actLine_97 : decode cX12_actLine 97 = .ok (.aload_n 0, 1) := by decide +kernel
theorem dX12_actLine_98 : decode cX12_actLine 98 = .ok (.getfield 338, 3) := by decide +kernel
theorem dX12_actLine_101 : decode cX12_actLine 101 = .ok (.iaload, 1) := by decide +kernel
theorem dX12_actLine_102 : decode cX12_actLine 102 = .ok (.iconst 2, 1) := by decide +kernel
theorem dX12_actLine_103 : decode cX12_actLine 103 = .ok (.if_icmp .ne 10, 3) := by decide +kernel
theorem dX12_actLine_106 : decode cX12_actLine 106 = .ok (.aload_n 0, 1) := by decide +kernel
theorem dX12_actLine_107 : decode cX12_actLine 107 = .ok (.invokevirtual 443, 3) := by decide +kernel
theorem dX12_actLine_110 : decode cX12_actLine 110 = .ok (.goto 39, 3) := by decide +kernel
theorem dX12_actLine_113 : decode cX12_actLine 113 = .ok (.aload_n 0, 1) := by decide +kernel
theorem dX12_actLine_114 : decode cX12_actLine 114 = .ok (.getfield 48, 3) := by decide +kernel
theorem dX12_actLine_117 : decode cX12_actLine 117 = .ok (.aload_n 0, 1) := by decide +kernel
theorem dX12_actLine_118 : decode cX12_actLine 118 = .ok (.getfield 338, 3) := by decide +kernel
theorem dX12_actLine_121 : decode cX12_actLine 121 = .ok (.iaload, 1) := by decide +kernel
theorem dX12_actLine_122 : decode cX12_actLine 122 = .ok (.iconst 5, 1) := by decide +kernel
theorem dX12_actLine_123 : decode cX12_actLine 123 = .ok (.if_icmp .ne 26, 3) := by decide +kernel
theorem dX12_actLine_126 : decode cX12_actLine 126 = .ok (.aload_n 0, 1) := by decide +kernel
theorem dX12_actLine_127 : decode cX12_actLine 127 = .ok (.dup, 1) := by decide +kernel
theorem dX12_actLine_128 : decode cX12_actLine 128 = .ok (.getfield 338, 3) := by decide +kernel
theorem dX12_actLine_131 : decode cX12_actLine 131 = .ok (.iconst 1, 1) := by decide +kernel
theorem dX12_actLine_132 : decode cX12_actLine 132 = .ok (.iadd, 1) := by decide +kernel
theorem dX12_actLine_133 : decode cX12_actLine 133 = .ok (.putfield 338, 3) := by decide +kernel
theorem dX12_actLine_136 : decode cX12_actLine 136 = .ok (.aload_n 0, 1) := by decide +kernel
theorem dX12_actLine_137 : decode cX12_actLine 137 = .ok (.aload_n 0, 1) := by decide +kernel
theorem dX12_actLine_138 : decode cX12_actLine 138 = .ok (.getfield 51, 3) := by decide +kernel
theorem dX12_actLine_141 : decode cX12_actLine 141 = .ok (.aload_n 0, 1) := by decide +kernel
theorem dX12_actLine_142 : decode cX12_actLine 142 = .ok (.getfield 440, 3) := by decide +kernel
theorem dX12_actLine_145 : decode cX12_actLine 145 = .ok (.iaload, 1) := by decide +kernel
theorem dX12_actLine_146 : decode cX12_actLine 146 = .ok (.invokevirtual 446, 3) := by decide +kernel
theorem dX12_actLine_149 : decode cX12_actLine 149 = .ok (.return_, 1) := by decide +kernel
theorem dX12_endOfLine_0 : decode cX12_endOfLine 0 = .ok (.aload_n 0, 1) := by decide +kernel
theorem dX12_endOfLine_1 : decode cX12_endOfLine 1 = .ok (.getfield 338, 3) := by decide +kernel
theorem dX12_endOfLine_4 : decode cX12_endOfLine 4 = .ok (.istore_n 1, 1) := by decide +kernel
theorem dX12_endOfLine_5 : decode cX12_endOfLine 5 = .ok (.aload_n 0, 1) := by decide +kernel
theorem dX12_endOfLine_6 : decode cX12_endOfLine 6 = .ok (.getfield 48, 3) := by decide +kernel
theorem dX12_endOfLine_9 : decode cX12_endOfLine 9 = .ok (.iload_n 1, 1) := by decide +kernel
theorem dX12_endOfLine_10 : decode cX12_endOfLine 10 = .ok (.iaload, 1) := by decide +kernel
theorem dX12_endOfLine_11 : decode cX12_endOfLine 11 = .ok (.ifCond .eq 9, 3) := by decide +kernel
theorem dX12_endOfLine_14 : decode cX12_endOfLine 14 = .ok (.iinc 1 1, 3) := by decide +kernel
theorem dX12_endOfLine_17 : decode cX12_endOfLine 17 = .ok (.goto (-12), 3) := by decide +kernel
theorem dX12_endOfLine_20 : decode cX12_endOfLine 20 = .ok (.iload_n 1, 1) := by decide +kernel
theorem dX12_endOfLine_21 : decode cX12_endOfLine 21 = .ok (.ireturn, 1) := by decide +kernel
theorem dX12_put__0 : decode cX12_put_ 0 = .ok (.iconst 0, 1) := by decide +kernel
theorem dX12_put__1 : decode cX12_put_ 1 = .ok (.istore 4, 2) := by decide +kernel
theorem dX12_put__3 : decode cX12_put_ 3 = .ok (.iload_n 3, 1) := by decide +kernel
theorem dX12_put__4 : decode cX12_put_ 4 = .ok (.iconst 1, 1) := by decide +kernel
theorem dX12_put__5 : decode cX12_put_ 5 = .ok (.if_icmp .ne 17, 3) := by decide +kernel
theorem dX12_put__8 : decode cX12_put_ 8 = .ok (.aload_n 0, 1) := by decide +kernel
theorem dX12_put__9 : decode cX12_put_ 9 = .ok (.bipush (-128), 2) := by decide +kernel
theorem dX12_put__11 : decode cX12_put_ 11 = .ok (.sipush 255, 3) := by decide +kernel
theorem dX12_put__14 : decode cX12_put_ 14 = .ok (.invokevirtual 417, 3) := by decide +kernel
theorem dX12_put__17 : decode cX12_put_ 17 = .ok (.istore 4, 2) := by decide +kernel
theorem dX12_put__19 : decode cX12_put_ 19 = .ok (.goto 56, 3) := by decide +kernel
theorem dX12_put__22 : decode cX12_put_ 22 = .ok (.iload_n 3, 1) := by decide +kernel
theorem dX12_put__23 : decode cX12_put_ 23 = .ok (.iconst 5, 1) := by decide +kernel
theorem dX12_put__24 : decode cX12_put_ 24 = .ok (.if_icmp .eq 9, 3) := by decide +kernel
theorem dX12_put__27 : decode cX12_put_ 27 = .ok (.iload_n 3, 1) := by decide +kernel
theorem dX12_put__28 : decode cX12_put_ 28 = .ok (.bipush 6, 2) := by decide +kernel
theorem dX12_put__30 : decode cX12_put_ 30 = .ok (.if_icmp .ne 16, 3) := by decide +kernel
theorem dX12_put__33 : decode cX12_put_ 33 = .ok (.aload_n 0, 1) := by decide +kernel
theorem dX12_put__34 : decode cX12_put_ 34 = .ok (.iconst 0, 1) := by decide +kernel
theorem dX12_put__35 : decode cX12_put_ 35 = .ok (.sipush 255, 3) := by decide +kernel
theorem dX12_put__38 : decode cX12_put_ 38 = .ok (.invokevirtual 417, 3) := by decide +kernel
theorem dX12_put__41 : decode cX12_put_ 41 = .ok (.istore 4, 2) := by decide +kernel
theorem dX12_put__43 : decode cX12_put_ 43 = .ok (.goto 32, 3) := by decide +kernel
theorem dX12_put__46 : decode cX12_put_ 46 = .ok (.iload_n 3, 1) := by decide +kernel
theorem dX12_put__47 : decode cX12_put_ 47 = .ok (.bipush 7, 2) := by decide +kernel
theorem dX12_put__49 : decode cX12_put_ 49 = .ok (.if_icmp .ne 12, 3) := by decide +kernel
theorem dX12_put__52 : decode cX12_put_ 52 = .ok (.aload_n 0, 1) := by decide +kernel
theorem dX12_put__53 : decode cX12_put_ 53 = .ok (.invokevirtual 482, 3) := by decide +kernel
theorem dX12_put__56 : decode cX12_put_ 56 = .ok (.istore 4, 2) := by decide +kernel
theorem dX12_put__58 : decode cX12_put_ 58 = .ok (.goto 17, 3) := by decide +kernel
theorem dX12_put__61 : decode cX12_put_ 61 = .ok (.iload_n 3, 1) := by decide +kernel
theorem dX12_put__62 : decode cX12_put_ 62 = .ok (.ifCond .le 13, 3) := by decide +kernel
theorem dX12_put__65 : decode cX12_put_ 65 = .ok (.aload_n 0, 1) := by decide +kernel
theorem dX12_put__66 : decode cX12_put_ 66 = .ok (.iconst 0, 1) := by decide +kernel
theorem dX12_put__67 : decode cX12_put_ 67 = .ok (.sipush 4095, 3) := by decide +kernel
theorem dX12_put__70 : decode cX12_put_ 70 = .ok (.invokevirtual 417, 3) := by decide +kernel
theorem dX12_put__73 : decode cX12_put_ 73 = .ok (.istore 4, 2) := by decide +kernel
theorem dX12_put__75 : decode cX12_put_ 75 = .ok (.iload_n 3, 1) := by decide +kernel
theorem dX12_put__76 : decode cX12_put_ 76 = .ok (.ifCond .ne 7, 3) := by decide +kernel
theorem dX12_put__79 : decode cX12_put_ 79 = .ok (.iload_n 1, 1) := by decide +kernel
theorem dX12_put__80 : decode cX12_put_ 80 = .ok (.goto 26, 3) := by decide +kernel
theorem dX12_put__83 : decode cX12_put_ 83 = .ok (.iload_n 3, 1) := by decide +kernel
theorem dX12_put__84 : decode cX12_put_ 84 = .ok (.bipush 7, 2) := by decide +kernel
theorem dX12_put__86 : decode cX12_put_ 86 = .ok (.if_icmp .ne 14, 3) := by decide +kernel
theorem dX12_put__89 : decode cX12_put_ 89 = .ok (.sipush 208, 3) := by decide +kernel
theorem dX12_put__92 : decode cX12_put_ 92 = .ok (.iload_n 1, 1) := by decide +kernel
theorem dX12_put__93 : decode cX12_put_ 93 = .ok (.iadd, 1) := by decide +kernel
theorem dX12_put__94 : decode cX12_put_ 94 = .ok (.bipush 54, 2) := by decide +kernel
theorem dX12_put__96 : decode cX12_put_ 96 = .ok (.isub, 1) := by decide +kernel
theorem dX12_put__97 : decode cX12_put_ 97 = .ok (.goto 9, 3) := by decide +kernel
theorem dX12_put__100 : decode cX12_put_ 100 = .ok (.bipush 8, 2) := by decide +kernel
theorem dX12_put__102 : decode cX12_put_ 102 = .ok (.iload_n 2, 1) := by decide +kernel
theorem dX12_put__103 : decode cX12_put_ 103 = .ok (.imul, 1) := by decide +kernel
theorem dX12_put__104 : decode cX12_put_ 104 = .ok (.iload_n 3, 1) := by decide +kernel
theorem dX12_put__105 : decode cX12_put_ 105 = .ok (.iadd, 1) := by decide +kernel
theorem dX12_put__106 : decode cX12_put_ 106 = .ok (.istore 5, 2) := by decide +kernel
theorem dX12_put__108 : decode cX12_put_ 108 = .ok (.aload_n 0, 1) := by decide +kernel
theorem dX12_put__109 : decode cX12_put_ 109 = .ok (.iconst 0, 1) := by decide +kernel
theorem dX12_put__110 : decode cX12_put_ 110 = .ok (.iload 5, 2) := by decide +kernel
theorem dX12_put__112 : decode cX12_put_ 112 = .ok (.invokevirtual 456, 3) := by decide +kernel
theorem dX12_put__115 : decode cX12_put_ 115 = .ok (.iload_n 3, 1) := by decide +kernel
theorem dX12_put__116 : decode cX12_put_ 116 = .ok (.ifCond .le 14, 3) := by decide +kernel
theorem dX12_put__119 : decode cX12_put_ 119 = .ok (.aload_n 0, 1) := by decide +kernel
theorem dX12_put__120 : decode cX12_put_ 120 = .ok (.iconst 1, 1) := by decide +kernel
theorem dX12_put__121 : decode cX12_put_ 121 = .ok (.iload 4, 2) := by decide +kernel
theorem dX12_put__123 : decode cX12_put_ 123 = .ok (.sipush 255, 3) := by decide +kernel
theorem dX12_put__126 : decode cX12_put_ 126 = .ok (.iand, 1) := by decide +kernel
theorem dX12_put__127 : decode cX12_put_ 127 = .ok (.invokevirtual 456, 3) := by decide +kernel
theorem dX12_put__130 : decode cX12_put_ 130 = .ok (.iload_n 3, 1) := by decide +kernel
theorem dX12_put__131 : decode cX12_put_ 131 = .ok (.invokestatic 479, 3) := by decide +kernel
theorem dX12_put__134 : decode cX12_put_ 134 = .ok (.iconst 3, 1) := by decide +kernel
theorem dX12_put__135 : decode cX12_put_ 135 = .ok (.if_icmp .ne 17, 3) := by decide +kernel
theorem dX12_put__138 : decode cX12_put_ 138 = .ok (.aload_n 0, 1) := by decide +kernel
theorem dX12_put__139 : decode cX12_put_ 139 = .ok (.iconst 2, 1) := by decide +kernel
theorem dX12_put__140 : decode cX12_put_ 140 = .ok (.iload 4, 2) := by decide +kernel
theorem dX12_put__142 : decode cX12_put_ 142 = .ok (.bipush 8, 2) := by decide +kernel
theorem dX12_put__144 : decode cX12_put_ 144 = .ok (.ishr, 1) := by decide +kernel
theorem dX12_put__145 : decode cX12_put_ 145 = .ok (.sipush 255, 3) := by decide +kernel
theorem dX12_put__148 : decode cX12_put_ 148 = .ok (.iand, 1) := by decide +kernel
theorem dX12_put__149 : decode cX12_put_ 149 = .ok (.invokevirtual 456, 3) := by decide +kernel
theorem dX12_put__152 : decode cX12_put_ 152 = .ok (.aload_n 0, 1) := by decide +kernel
theorem dX12_put__153 : decode cX12_put_ 153 = .ok (.dup, 1) := by decide +kernel
theorem dX12_put__154 : decode cX12_put_ 154 = .ok (.getfield 388, 3) := by decide +kernel
theorem dX12_put__157 : decode cX12_put_ 157 = .ok (.iload_n 3, 1) := by decide +kernel
theorem dX12_put__158 : decode cX12_put_ 158 = .ok (.invokestatic 479, 3) := by decide +kernel
theorem dX12_put__161 : decode cX12_put_ 161 = .ok (.iadd, 1) := by decide +kernel
theorem dX12_put__162 : decode cX12_put_ 162 = .ok (.putfield 388, 3) := by decide +kernel
theorem dX12_put__165 : decode cX12_put_ 165 = .ok (.return_, 1) := by decide +kernel
theorem dX12_time_0 : decode cX12_time 0 = .ok (.aload_n 0, 1) := by decide +kernel
theorem dX12_time_1 : decode cX12_time 1 = .ok (.iload_n 1, 1) := by decide +kernel
theorem dX12_time_2 : decode cX12_time 2 = .ok (.putfield 404, 3) := by decide +kernel
theorem dX12_time_5 : decode cX12_time 5 = .ok (.aload_n 0, 1) := by decide +kernel
theorem dX12_time_6 : decode cX12_time 6 = .ok (.sipush 3072, 3) := by decide +kernel
theorem dX12_time_9 : decode cX12_time 9 = .ok (.putfield 388, 3) := by decide +kernel
theorem dX12_time_12 : decode cX12_time 12 = .ok (.aload_n 0, 1) := by decide +kernel
theorem dX12_time_13 : decode cX12_time 13 = .ok (.iconst 0, 1) := by decide +kernel
theorem dX12_time_14 : decode cX12_time 14 = .ok (.putfield 449, 3) := by decide +kernel
theorem dX12_time_17 : decode cX12_time 17 = .ok (.aload_n 0, 1) := by decide +kernel
theorem dX12_time_18 : decode cX12_time 18 = .ok (.iconst 0, 1) := by decide +kernel
theorem dX12_time_19 : decode cX12_time 19 = .ok (.putfield 407, 3) := by decide +kernel
theorem dX12_time_22 : decode cX12_time 22 = .ok (.aload_n 0, 1) := by decide +kernel
theorem dX12_time_23 : decode cX12_time 23 = .ok (.iconst 0, 1) := by decide +kernel
theorem dX12_time_24 : decode cX12_time 24 = .ok (.putfield 338, 3) := by decide +kernel
theorem dX12_time_27 : decode cX12_time 27 = .ok (.aload_n 0, 1) := by decide +kernel
theorem dX12_time_28 : decode cX12_time 28 = .ok (.iconst 0, 1) := by decide +kernel
theorem dX12_time_29 : decode cX12_time 29 = .ok (.putfield 428, 3) := by decide +kernel
theorem dX12_time_32 : decode cX12_time 32 = .ok (.aload_n 0, 1) := by decide +kernel
theorem dX12_time_33 : decode cX12_time 33 = .ok (.getfield 333, 3) := by decide +kernel
theorem dX12_time_36 : decode cX12_time 36 = .ok (.ifCond .ne 72, 3) := by decide +kernel
theorem dX12_time_39 : decode cX12_time 39 = .ok (.aload_n 0, 1) := by decide +kernel
theorem dX12_time_40 : decode cX12_time 40 = .ok (.getfield 428, 3) := by decide +kernel
theorem dX12_time_43 : decode cX12_time 43 = .ok (.sipush 130, 3) := by decide +kernel
theorem dX12_time_46 : decode cX12_time 46 = .ok (.if_icmp .ge 62, 3) := by decide +kernel
theorem dX12_time_49 : decode cX12_time 49 = .ok (.aload_n 0, 1) := by decide +kernel
theorem dX12_time_50 : decode cX12_time 50 = .ok (.invokevirtual 485, 3) := by decide +kernel
theorem dX12_time_53 : decode cX12_time 53 = .ok (.aload_n 0, 1) := by decide +kernel
theorem dX12_time_54 : decode cX12_time 54 = .ok (.getfield 333, 3) := by decide +kernel
theorem dX12_time_57 : decode cX12_time 57 = .ok (.ifCond .le 4, 3) := by decide +kernel
theorem dX12_time_60 : decode cX12_time 60 = .ok (.return_, 1) := by decide +kernel
theorem dX12_time_61 : decode cX12_time 61 = .ok (.aload_n 0, 1) := by decide +kernel
theorem dX12_time_62 : decode cX12_time 62 = .ok (.aload_n 0, 1) := by decide +kernel
theorem dX12_time_63 : decode cX12_time 63 = .ok (.invokevirtual 471, 3) := by decide +kernel
theorem dX12_time_66 : decode cX12_time 66 = .ok (.putfield 338, 3) := by decide +kernel
theorem dX12_time_69 : decode cX12_time 69 = .ok (.aload_n 0, 1) := by decide +kernel
theorem dX12_time_70 : decode cX12_time 70 = .ok (.getfield 338, 3) := by decide +kernel
theorem dX12_time_73 : decode cX12_time 73 = .ok (.iconst 1, 1) := by decide +kernel
theorem dX12_time_74 : decode cX12_time 74 = .ok (.iadd, 1) := by decide +kernel
theorem dX12_time_75 : decode cX12_time 75 = .ok (.aload_n 0, 1) := by decide +kernel
theorem dX12_time_76 : decode cX12_time 76 = .ok (.getfield 293, 3) := by decide +kernel
theorem dX12_time_79 : decode cX12_time 79 = .ok (.if_icmp .lt 6, 3) := by decide +kernel
theorem dX12_time_82 : decode cX12_time 82 = .ok (.goto 26, 3) := by decide +kernel
theorem dX12_time_85 : decode cX12_time 85 = .ok (.aload_n 0, 1) := by decide +kernel
theorem dX12_time_86 : decode cX12_time 86 = .ok (.dup, 1) := by decide +kernel
theorem dX12_time_87 : decode cX12_time 87 = .ok (.getfield 338, 3) := by decide +kernel
theorem dX12_time_90 : decode cX12_time 90 = .ok (.iconst 1, 1) := by decide +kernel
theorem dX12_time_91 : decode cX12_time 91 = .ok (.iadd, 1) := by decide +kernel
theorem dX12_time_92 : decode cX12_time 92 = .ok (.putfield 338, 3) := by decide +kernel
theorem dX12_time_95 : decode cX12_time 95 = .ok (.aload_n 0, 1) := by decide +kernel
theorem dX12_time_96 : decode cX12_time 96 = .ok (.dup, 1) := by decide +kernel
theorem dX12_time_97 : decode cX12_time 97 = .ok (.getfield 428, 3) := by decide +kernel
theorem dX12_time_100 : decode cX12_time 100 = .ok (.iconst 1, 1) := by decide +kernel
theorem dX12_time_101 : decode cX12_time 101 = .ok (.iadd, 1) := by decide +kernel
theorem dX12_time_102 : decode cX12_time 102 = .ok (.putfield 428, 3) := by decide +kernel
theorem dX12_time_105 : decode cX12_time 105 = .ok (.goto (-73), 3) := by decide +kernel
theorem dX12_time_108 : decode cX12_time 108 = .ok (.aload_n 0, 1) := by decide +kernel
theorem dX12_time_109 : decode cX12_time 109 = .ok (.getfield 333, 3) := by decide +kernel
theorem dX12_time_112 : decode cX12_time 112 = .ok (.ifCond .ne 19, 3) := by decide +kernel
theorem dX12_time_115 : decode cX12_time 115 = .ok (.aload_n 0, 1) := by decide +kernel
theorem dX12_time_116 : decode cX12_time 116 = .ok (.getfield 407, 3) := by decide +kernel
theorem dX12_time_119 : decode cX12_time 119 = .ok (.ifCond .le 12, 3) := by decide +kernel
theorem dX12_time_122 : decode cX12_time 122 = .ok (.aload_n 0, 1) := by decide +kernel
theorem dX12_time_123 : decode cX12_time 123 = .ok (.iconst 3, 1) := by decide +kernel
theorem dX12_time_124 : decode cX12_time 124 = .ok (.aload_n 0, 1) := by decide +kernel
theorem dX12_time_125 : decode cX12_time 125 = .ok (.getfield 284, 3) := by decide +kernel
theorem dX12_time_128 : decode cX12_time 128 = .ok (.invokevirtual 343, 3) := by decide +kernel
theorem dX12_time_131 : decode cX12_time 131 = .ok (.return_, 1) := by decide +kernel
theorem dX12_read__0 : decode cX12_read_ 0 = .ok (.aload_n 0, 1) := by decide +kernel
theorem dX12_read__1 : decode cX12_read_ 1 = .ok (.iconst 0, 1) := by decide +kernel
theorem dX12_read__2 : decode cX12_read_ 2 = .ok (.putfield 333, 3) := by decide +kernel
theorem dX12_read__5 : decode cX12_read_ 5 = .ok (.aload_n 0, 1) := by decide +kernel
theorem dX12_read__6 : decode cX12_read_ 6 = .ok (.iconst 0, 1) := by decide +kernel
theorem dX12_read__7 : decode cX12_read_ 7 = .ok (.putfield 379, 3) := by decide +kernel
theorem dX12_read__10 : decode cX12_read_ 10 = .ok (.aload_n 0, 1) := by decide +kernel
theorem dX12_read__11 : decode cX12_read_ 11 = .ok (.invokevirtual 488, 3) := by decide +kernel
theorem dX12_read__14 : decode cX12_read_ 14 = .ok (.aload_n 0, 1) := by decide +kernel
theorem dX12_read__15 : decode cX12_read_ 15 = .ok (.iconst 0, 1) := by decide +kernel
theorem dX12_read__16 : decode cX12_read_ 16 = .ok (.putfield 338, 3) := by decide +kernel
theorem dX12_read__19 : decode cX12_read_ 19 = .ok (.aload_n 0, 1) := by decide +kernel
theorem dX12_read__20 : decode cX12_read_ 20 = .ok (.iconst 0, 1) := by decide +kernel
theorem dX12_read__21 : decode cX12_read_ 21 = .ok (.putfield 346, 3) := by decide +kernel
theorem dX12_read__24 : decode cX12_read_ 24 = .ok (.aload_n 0, 1) := by decide +kernel
theorem dX12_read__25 : decode cX12_read_ 25 = .ok (.getfield 346, 3) := by decide +kernel
theorem dX12_read__28 : decode cX12_read_ 28 = .ok (.ifCond .ne 17, 3) := by decide +kernel
theorem dX12_read__31 : decode cX12_read_ 31 = .ok (.aload_n 0, 1) := by decide +kernel
theorem dX12_read__32 : decode cX12_read_ 32 = .ok (.getfield 333, 3) := by decide +kernel
theorem dX12_read__35 : decode cX12_read_ 35 = .ok (.ifCond .ne 10, 3) := by decide +kernel
theorem dX12_read__38 : decode cX12_read_ 38 = .ok (.aload_n 0, 1) := by decide +kernel
theorem dX12_read__39 : decode cX12_read_ 39 = .ok (.invokevirtual 491, 3) := by decide +kernel
theorem dX12_read__42 : decode cX12_read_ 42 = .ok (.goto (-18), 3) := by decide +kernel
theorem dX12_read__45 : decode cX12_read_ 45 = .ok (.aload_n 0, 1) := by decide +kernel
theorem dX12_read__46 : decode cX12_read_ 46 = .ok (.getfield 333, 3) := by decide +kernel
theorem dX12_read__49 : decode cX12_read_ 49 = .ok (.ifCond .le 8, 3) := by decide +kernel
theorem dX12_read__52 : decode cX12_read_ 52 = .ok (.aload_n 0, 1) := by decide +kernel
theorem dX12_read__53 : decode cX12_read_ 53 = .ok (.getfield 333, 3) := by decide +kernel
theorem dX12_read__56 : decode cX12_read_ 56 = .ok (.ireturn, 1) := by decide +kernel
theorem dX12_read__57 : decode cX12_read_ 57 = .ok (.iconst 0, 1) := by decide +kernel
theorem dX12_read__58 : decode cX12_read_ 58 = .ok (.istore_n 1, 1) := by decide +kernel
theorem dX12_read__59 : decode cX12_read_ 59 = .ok (.iload_n 1, 1) := by decide +kernel
theorem dX12_read__60 : decode cX12_read_ 60 = .ok (.sipush 11008, 3) := by decide +kernel
theorem dX12_read__63 : decode cX12_read_ 63 = .ok (.if_icmp .ge 23, 3) := by decide +kernel
theorem dX12_read__66 : decode cX12_read_ 66 = .ok (.aload_n 0, 1) := by decide +kernel
theorem dX12_read__67 : decode cX12_read_ 67 = .ok (.getfield 78, 3) := by decide +kernel
theorem dX12_read__70 : decode cX12_read_ 70 = .ok (.iload_n 1, 1) := by decide +kernel
theorem dX12_read__71 : decode cX12_read_ 71 = .ok (.iconst 0, 1) := by decide +kernel
theorem dX12_read__72 : decode cX12_read_ 72 = .ok (.iastore, 1) := by decide +kernel
theorem dX12_read__73 : decode cX12_read_ 73 = .ok (.aload_n 0, 1) := by decide +kernel
theorem dX12_read__74 : decode cX12_read_ 74 = .ok (.getfield 84, 3) := by decide +kernel
theorem dX12_read__77 : decode cX12_read_ 77 = .ok (.iload_n 1, 1) := by decide +kernel
theorem dX12_read__78 : decode cX12_read_ 78 = .ok (.iconst 0, 1) := by decide +kernel
theorem dX12_read__79 : decode cX12_read_ 79 = .ok (.iastore, 1) := by decide +kernel
theorem dX12_read__80 : decode cX12_read_ 80 = .ok (.iinc 1 1, 3) := by decide +kernel
theorem dX12_read__83 : decode cX12_read_ 83 = .ok (.goto (-24), 3) := by decide +kernel
theorem dX12_read__86 : decode cX12_read_ 86 = .ok (.aload_n 0, 1) := by decide +kernel
theorem dX12_read__87 : decode cX12_read_ 87 = .ok (.iconst 0, 1) := by decide +kernel
theorem dX12_read__88 : decode cX12_read_ 88 = .ok (.invokevirtual 494, 3) := by decide +kernel
theorem dX12_read__91 : decode cX12_read_ 91 = .ok (.aload_n 0, 1) := by decide +kernel
theorem dX12_read__92 : decode cX12_read_ 92 = .ok (.getfield 333, 3) := by decide +kernel
theorem dX12_read__95 : decode cX12_read_ 95 = .ok (.ifCond .ne 8, 3) := by decide +kernel
theorem dX12_read__98 : decode cX12_read_ 98 = .ok (.aload_n 0, 1) := by decide +kernel
theorem dX12_read__99 : decode cX12_read_ 99 = .ok (.iconst 1, 1) := by decide +kernel
theorem dX12_read__100 : decode cX12_read_ 100 = .ok (.invokevirtual 494, 3) := by decide +kernel
theorem dX12_read__103 : decode cX12_read_ 103 = .ok (.aload_n 0, 1) := by decide +kernel
theorem dX12_read__104 : decode cX12_read_ 104 = .ok (.getfield 333, 3) := by decide +kernel
theorem dX12_read__107 : decode cX12_read_ 107 = .ok (.ifCond .le 8, 3) := by decide +kernel
theorem dX12_read__110 : decode cX12_read_ 110 = .ok (.aload_n 0, 1) := by decide +kernel
theorem dX12_read__111 : decode cX12_read_ 111 = .ok (.getfield 333, 3) := by decide +kernel
theorem dX12_read__114 : decode cX12_read_ 114 = .ok (.ireturn, 1) := by decide +kernel
theorem dX12_read__115 : decode cX12_read_ 115 = .ok (.aload_n 0, 1) := by decide +kernel
theorem dX12_read__116 : decode cX12_read_ 116 = .ok (.getfield 78, 3) := by decide +kernel
theorem dX12_read__119 : decode cX12_read_ 119 = .ok (.iconst 0, 1) := by decide +kernel
theorem dX12_read__120 : decode cX12_read_ 120 = .ok (.aload_n 0, 1) := by decide +kernel
theorem dX12_read__121 : decode cX12_read_ 121 = .ok (.getfield 9, 3) := by decide +kernel
theorem dX12_read__124 : decode cX12_read_ 124 = .ok (.sipush 1101, 3) := by decide +kernel
theorem dX12_read__127 : decode cX12_read_ 127 = .ok (.sipush 11008, 3) := by decide +kernel
theorem dX12_read__130 : decode cX12_read_ 130 = .ok (.invokestatic 111, 3) := by decide +kernel
theorem dX12_read__133 : decode cX12_read_ 133 = .ok (.aload_n 0, 1) := by decide +kernel
theorem dX12_read__134 : decode cX12_read_ 134 = .ok (.getfield 84, 3) := by decide +kernel
theorem dX12_read__137 : decode cX12_read_ 137 = .ok (.iconst 0, 1) := by decide +kernel
theorem dX12_read__138 : decode cX12_read_ 138 = .ok (.aload_n 0, 1) := by decide +kernel
theorem dX12_read__139 : decode cX12_read_ 139 = .ok (.getfield 81, 3) := by decide +kernel
theorem dX12_read__142 : decode cX12_read_ 142 = .ok (.iconst 0, 1) := by decide +kernel
theorem dX12_read__143 : decode cX12_read_ 143 = .ok (.sipush 11008, 3) := by decide +kernel
theorem dX12_read__146 : decode cX12_read_ 146 = .ok (.invokestatic 111, 3) := by decide +kernel
theorem dX12_read__149 : decode cX12_read_ 149 = .ok (.aload_n 0, 1) := by decide +kernel
theorem dX12_read__150 : decode cX12_read_ 150 = .ok (.getfield 66, 3) := by decide +kernel
theorem dX12_read__153 : decode cX12_read_ 153 = .ok (.iconst 0, 1) := by decide +kernel
theorem dX12_read__154 : decode cX12_read_ 154 = .ok (.aload_n 0, 1) := by decide +kernel
theorem dX12_read__155 : decode cX12_read_ 155 = .ok (.getfield 87, 3) := by decide +kernel
theorem dX12_read__158 : decode cX12_read_ 158 = .ok (.iconst 0, 1) := by decide +kernel
theorem dX12_read__159 : decode cX12_read_ 159 = .ok (.aload_n 0, 1) := by decide +kernel
theorem dX12_read__160 : decode cX12_read_ 160 = .ok (.getfield 379, 3) := by decide +kernel
theorem dX12_read__163 : decode cX12_read_ 163 = .ok (.invokestatic 111, 3) := by decide +kernel
theorem dX12_read__166 : decode cX12_read_ 166 = .ok (.aload_n 0, 1) := by decide +kernel
theorem dX12_read__167 : decode cX12_read_ 167 = .ok (.aload_n 0, 1) := by decide +kernel
theorem dX12_read__168 : decode cX12_read_ 168 = .ok (.getfield 379, 3) := by decide +kernel
theorem dX12_read__171 : decode cX12_read_ 171 = .ok (.putfield 497, 3) := by decide +kernel
theorem dX12_read__174 : decode cX12_read_ 174 = .ok (.iconst 0, 1) := by decide +kernel
theorem dX12_read__175 : decode cX12_read_ 175 = .ok (.ireturn, 1) := by decide +kernel
theorem dX12_assemble_0 : decode cX12_assemble 0 = .ok (.aload_n 0, 1) := by decide +kernel
theorem dX12_assemble_1 : decode cX12_assemble 1 = .ok (.iconst 0, 1) := by decide +kernel
theorem dX12_assemble_2 : decode cX12_assemble 2 = .ok (.putfield 93, 3) := by decide +kernel
theorem dX12_assemble_5 : decode cX12_assemble 5 = .ok (.aload_n 0, 1) := by decide +kernel
theorem dX12_assemble_6 : decode cX12_assemble 6 = .ok (.invokevirtual 499, 3) := by decide +kernel
theorem dX12_assemble_9 : decode cX12_assemble 9 = .ok (.istore_n 1, 1) := by decide +kernel
theorem dX12_assemble_10 : decode cX12_assemble 10 = .ok (.aload_n 0, 1) := by decide +kernel
theorem dX12_assemble_11 : decode cX12_assemble 11 = .ok (.iload_n 1, 1) := by decide +kernel
theorem dX12_assemble_12 : decode cX12_assemble 12 = .ok (.ifCond .le 10, 3) := by decide +kernel
theorem dX12_assemble_15 : decode cX12_assemble 15 = .ok (.aload_n 0, 1) := by decide +kernel
theorem dX12_assemble_16 : decode cX12_assemble 16 = .ok (.getfield 336, 3) := by decide +kernel
theorem dX12_assemble_19 : decode cX12_assemble 19 = .ok (.goto 4, 3) := by decide +kernel
theorem dX12_assemble_22 : decode cX12_assemble 22 = .ok (.iconst (-1), 1) := by decide +kernel
theorem dX12_assemble_23 : decode cX12_assemble 23 = .ok (.putfield 60, 3) := by decide +kernel
theorem dX12_assemble_26 : decode cX12_assemble 26 = .ok (.aload_n 0, 1) := by decide +kernel
theorem dX12_assemble_27 : decode cX12_assemble 27 = .ok (.iconst 0, 1) := by decide +kernel
theorem dX12_assemble_28 : decode cX12_assemble 28 = .ok (.putfield 284, 3) := by decide +kernel
theorem dX12_assemble_31 : decode cX12_assemble 31 = .ok (.aload_n 0, 1) := by decide +kernel
theorem dX12_assemble_32 : decode cX12_assemble 32 = .ok (.invokevirtual 281, 3) := by decide +kernel
theorem dX12_assemble_35 : decode cX12_assemble 35 = .ok (.iload_n 1, 1) := by decide +kernel
theorem dX12_assemble_36 : decode cX12_assemble 36 = .ok (.ifCond .le 5, 3) := by decide +kernel
theorem dX12_assemble_39 : decode cX12_assemble 39 = .ok (.iload_n 1, 1) := by decide +kernel
theorem dX12_assemble_40 : decode cX12_assemble 40 = .ok (.ireturn, 1) := by decide +kernel
theorem dX12_assemble_41 : decode cX12_assemble 41 = .ok (.aload_n 0, 1) := by decide +kernel
theorem dX12_assemble_42 : decode cX12_assemble 42 = .ok (.iconst 0, 1) := by decide +kernel
theorem dX12_assemble_43 : decode cX12_assemble 43 = .ok (.putfield 501, 3) := by decide +kernel
theorem dX12_assemble_46 : decode cX12_assemble 46 = .ok (.aload_n 0, 1) := by decide +kernel
theorem dX12_assemble_47 : decode cX12_assemble 47 = .ok (.iconst 0, 1) := by decide +kernel
theorem dX12_assemble_48 : decode cX12_assemble 48 = .ok (.putfield 128, 3) := by decide +kernel
theorem dX12_assemble_51 : decode cX12_assemble 51 = .ok (.aload_n 0, 1) := by decide +kernel
theorem dX12_assemble_52 : decode cX12_assemble 52 = .ok (.invokevirtual 90, 3) := by decide +kernel
theorem dX12_assemble_55 : decode cX12_assemble 55 = .ok (.iconst 0, 1) := by decide +kernel
theorem dX12_assemble_56 : decode cX12_assemble 56 = .ok (.ireturn, 1) := by decide +kernel
theorem dX12_feed_0 : decode cX12_feed 0 = .ok (.aload_n 0, 1) := by decide +kernel
theorem dX12_feed_1 : decode cX12_feed 1 = .ok (.aload_n 0, 1) := by decide +kernel
theorem dX12_feed_2 : decode cX12_feed 2 = .ok (.getfield 284, 3) := by decide +kernel
theorem dX12_feed_5 : decode cX12_feed 5 = .ok (.bipush 20, 2) := by decide +kernel
theorem dX12_feed_7 : decode cX12_feed 7 = .ok (.iadd, 1) := by decide +kernel
theorem dX12_feed_8 : decode cX12_feed 8 = .ok (.sipush 2000, 3) := by decide +kernel
theorem dX12_feed_11 : decode cX12_feed 11 = .ok (.if_icmp .le 7, 3) := by decide +kernel
theorem dX12_feed_14 : decode cX12_feed 14 = .ok (.iconst 1, 1) := by decide +kernel
theorem dX12_feed_15 : decode cX12_feed 15 = .ok (.goto 4, 3) := by decide +kernel
theorem dX12_feed_18 : decode cX12_feed 18 = .ok (.iconst 0, 1) := by decide +kernel
theorem dX12_feed_19 : decode cX12_feed 19 = .ok (.putfield 93, 3) := by decide +kernel
theorem dX12_feed_22 : decode cX12_feed 22 = .ok (.aload_n 0, 1) := by decide +kernel
theorem dX12_feed_23 : decode cX12_feed 23 = .ok (.getfield 93, 3) := by decide +kernel
theorem dX12_feed_26 : decode cX12_feed 26 = .ok (.ifCond .le 5, 3) := by decide +kernel
theorem dX12_feed_29 : decode cX12_feed 29 = .ok (.iconst 0, 1) := by decide +kernel
theorem dX12_feed_30 : decode cX12_feed 30 = .ok (.ireturn, 1) := by decide +kernel
theorem dX12_feed_31 : decode cX12_feed 31 = .ok (.iconst 5, 1) := by decide +kernel
theorem dX12_feed_32 : decode cX12_feed 32 = .ok (.newarray .int, 2) := by decide +kernel
theorem dX12_feed_34 : decode cX12_feed 34 = .ok (.dup, 1) := by decide +kernel
theorem dX12_feed_35 : decode cX12_feed 35 = .ok (.iconst 0, 1) := by decide +kernel
theorem dX12_feed_36 : decode cX12_feed 36 = .ok (.iload_n 1, 1) := by decide +kernel
theorem dX12_feed_37 : decode cX12_feed 37 = .ok (.iastore, 1) := by decide +kernel
theorem dX12_feed_38 : decode cX12_feed 38 = .ok (.dup, 1) := by decide +kernel
theorem dX12_feed_39 : decode cX12_feed 39 = .ok (.iconst 1, 1) := by decide +kernel
theorem dX12_feed_40 : decode cX12_feed 40 = .ok (.iload_n 2, 1) := by decide +kernel
theorem dX12_feed_41 : decode cX12_feed 41 = .ok (.iastore, 1) := by decide +kernel
theorem dX12_feed_42 : decode cX12_feed 42 = .ok (.dup, 1) := by decide +kernel
theorem dX12_feed_43 : decode cX12_feed 43 = .ok (.iconst 2, 1) := by decide +kernel
theorem dX12_feed_44 : decode cX12_feed 44 = .ok (.iload_n 3, 1) := by decide +kernel
theorem dX12_feed_45 : decode cX12_feed 45 = .ok (.iastore, 1) := by decide +kernel
theorem dX12_feed_46 : decode cX12_feed 46 = .ok (.dup, 1) := by decide +kernel
theorem dX12_feed_47 : decode cX12_feed 47 = .ok (.iconst 3, 1) := by decide +kernel
theorem dX12_feed_48 : decode cX12_feed 48 = .ok (.iload 4, 2) := by decide +kernel
theorem dX12_feed_50 : decode cX12_feed 50 = .ok (.iastore, 1) := by decide +kernel
theorem dX12_feed_51 : decode cX12_feed 51 = .ok (.dup, 1) := by decide +kernel
theorem dX12_feed_52 : decode cX12_feed 52 = .ok (.iconst 4, 1) := by decide +kernel
theorem dX12_feed_53 : decode cX12_feed 53 = .ok (.iload 5, 2) := by decide +kernel
theorem dX12_feed_55 : decode cX12_feed 55 = .ok (.iastore, 1) := by decide +kernel
theorem dX12_feed_56 : decode cX12_feed 56 = .ok (.astore 6, 2) := by decide +kernel
theorem dX12_feed_58 : decode cX12_feed 58 = .ok (.iconst 0, 1) := by decide +kernel
theorem dX12_feed_59 : decode cX12_feed 59 = .ok (.istore 7, 2) := by decide +kernel
theorem dX12_feed_61 : decode cX12_feed 61 = .ok (.iload 7, 2) := by decide +kernel
theorem dX12_feed_63 : decode cX12_feed 63 = .ok (.bipush 20, 2) := by decide +kernel
theorem dX12_feed_65 : decode cX12_feed 65 = .ok (.if_icmp .ge 40, 3) := by decide +kernel
theorem dX12_feed_68 : decode cX12_feed 68 = .ok (.aload_n 0, 1) := by decide +kernel
theorem dX12_feed_69 : decode cX12_feed 69 = .ok (.getfield 44, 3) := by decide +kernel
theorem dX12_feed_72 : decode cX12_feed 72 = .ok (.aload_n 0, 1) := by decide +kernel
theorem dX12_feed_73 : decode cX12_feed 73 = .ok (.getfield 284, 3) := by decide +kernel
theorem dX12_feed_76 : decode cX12_feed 76 = .ok (.iload 7, 2) := by decide +kernel
theorem dX12_feed_78 : decode cX12_feed 78 = .ok (.iadd, 1) := by decide +kernel
theorem dX12_feed_79 : decode cX12_feed 79 = .ok (.aload 6, 2) := by decide +kernel
theorem dX12_feed_81 : decode cX12_feed 81 = .ok (.iload 7, 2) := by decide +kernel
theorem dX12_feed_83 : decode cX12_feed 83 = .ok (.iconst 4, 1) := by decide +kernel
theorem dX12_feed_84 : decode cX12_feed 84 = .ok (.idiv, 1) := by decide +kernel
theorem dX12_feed_85 : decode cX12_feed 85 = .ok (.iaload, 1) := by decide +kernel
theorem dX12_feed_86 : decode cX12_feed 86 = .ok (.bipush 24, 2) := by decide +kernel
theorem dX12_feed_88 : decode cX12_feed 88 = .ok (.iload 7, 2) := by decide +kernel
theorem dX12_feed_90 : decode cX12_feed 90 = .ok (.iconst 4, 1) := by decide +kernel
theorem dX12_feed_91 : decode cX12_feed 91 = .ok (.irem, 1) := by decide +kernel
theorem dX12_feed_92 : decode cX12_feed 92 = .ok (.bipush 8, 2) := by decide +kernel
theorem dX12_feed_94 : decode cX12_feed 94 = .ok (.imul, 1) := by decide +kernel
theorem dX12_feed_95 : decode cX12_feed 95 = .ok (.isub, 1) := by decide +kernel
theorem dX12_feed_96 : decode cX12_feed 96 = .ok (.ishr, 1) := by decide +kernel
theorem dX12_feed_97 : decode cX12_feed 97 = .ok (.i2b, 1) := by decide +kernel
theorem dX12_feed_98 : decode cX12_feed 98 = .ok (.bastore, 1) := by decide +kernel
theorem dX12_feed_99 : decode cX12_feed 99 = .ok (.iinc 7 1, 3) := by decide +kernel
theorem dX12_feed_102 : decode cX12_feed 102 = .ok (.goto (-41), 3) := by decide +kernel
theorem dX12_feed_105 : decode cX12_feed 105 = .ok (.aload_n 0, 1) := by decide +kernel
theorem dX12_feed_106 : decode cX12_feed 106 = .ok (.dup, 1) := by decide +kernel
theorem dX12_feed_107 : decode cX12_feed 107 = .ok (.getfield 284, 3) := by decide +kernel
theorem dX12_feed_110 : decode cX12_feed 110 = .ok (.bipush 20, 2) := by decide +kernel
theorem dX12_feed_112 : decode cX12_feed 112 = .ok (.iadd, 1) := by decide +kernel
theorem dX12_feed_113 : decode cX12_feed 113 = .ok (.putfield 284, 3) := by decide +kernel
theorem dX12_feed_116 : decode cX12_feed 116 = .ok (.aload_n 0, 1) := by decide +kernel
theorem dX12_feed_117 : decode cX12_feed 117 = .ok (.invokevirtual 281, 3) := by decide +kernel
theorem dX12_feed_120 : decode cX12_feed 120 = .ok (.aload_n 0, 1) := by decide +kernel
theorem dX12_feed_121 : decode cX12_feed 121 = .ok (.getfield 284, 3) := by decide +kernel
theorem dX12_feed_124 : decode cX12_feed 124 = .ok (.ireturn, 1) := by decide +kernel
theorem dX12_trim_0 : decode cX12_trim 0 = .ok (.aload_n 0, 1) := by decide +kernel
theorem dX12_trim_1 : decode cX12_trim 1 = .ok (.iload_n 1, 1) := by decide +kernel
theorem dX12_trim_2 : decode cX12_trim 2 = .ok (.iconst 0, 1) := by decide +kernel
theorem dX12_trim_3 : decode cX12_trim 3 = .ok (.aload_n 0, 1) := by decide +kernel
theorem dX12_trim_4 : decode cX12_trim 4 = .ok (.getfield 284, 3) := by decide +kernel
theorem dX12_trim_7 : decode cX12_trim 7 = .ok (.invokevirtual 504, 3) := by decide +kernel
theorem dX12_trim_10 : decode cX12_trim 10 = .ok (.ifCond .eq 5, 3) := by decide +kernel
theorem dX12_trim_13 : decode cX12_trim 13 = .ok (.iconst 0, 1) := by decide +kernel
theorem dX12_trim_14 : decode cX12_trim 14 = .ok (.ireturn, 1) := by decide +kernel
theorem dX12_trim_15 : decode cX12_trim 15 = .ok (.aload_n 0, 1) := by decide +kernel
theorem dX12_trim_16 : decode cX12_trim 16 = .ok (.iload_n 1, 1) := by decide +kernel
theorem dX12_trim_17 : decode cX12_trim 17 = .ok (.putfield 284, 3) := by decide +kernel
theorem dX12_trim_20 : decode cX12_trim 20 = .ok (.aload_n 0, 1) := by decide +kernel
theorem dX12_trim_21 : decode cX12_trim 21 = .ok (.invokevirtual 281, 3) := by decide +kernel
theorem dX12_trim_24 : decode cX12_trim 24 = .ok (.iload_n 1, 1) := by decide +kernel
theorem dX12_trim_25 : decode cX12_trim 25 = .ok (.ireturn, 1) := by decide +kernel
theorem dX12_errorAt_0 : decode cX12_errorAt 0 = .ok (.aload_n 0, 1) := by decide +kernel
theorem dX12_errorAt_1 : decode cX12_errorAt 1 = .ok (.iconst 0, 1) := by decide +kernel
theorem dX12_errorAt_2 : decode cX12_errorAt 2 = .ok (.putfield 93, 3) := by decide +kernel
theorem dX12_errorAt_5 : decode cX12_errorAt 5 = .ok (.aload_n 0, 1) := by decide +kernel
theorem dX12_errorAt_6 : decode cX12_errorAt 6 = .ok (.getfield 60, 3) := by decide +kernel
theorem dX12_errorAt_9 : decode cX12_errorAt 9 = .ok (.ireturn, 1) := by decide +kernel
theorem dX12_names_0 : decode cX12_names 0 = .ok (.aload_n 0, 1) := by decide +kernel
theorem dX12_names_1 : decode cX12_names 1 = .ok (.iconst 0, 1) := by decide +kernel
theorem dX12_names_2 : decode cX12_names 2 = .ok (.putfield 93, 3) := by decide +kernel
theorem dX12_names_5 : decode cX12_names 5 = .ok (.aload_n 0, 1) := by decide +kernel
theorem dX12_names_6 : decode cX12_names 6 = .ok (.getfield 497, 3) := by decide +kernel
theorem dX12_names_9 : decode cX12_names 9 = .ok (.ireturn, 1) := by decide +kernel
theorem dX12_valueOf_0 : decode cX12_valueOf 0 = .ok (.aload_n 0, 1) := by decide +kernel
theorem dX12_valueOf_1 : decode cX12_valueOf 1 = .ok (.iload_n 1, 1) := by decide +kernel
theorem dX12_valueOf_2 : decode cX12_valueOf 2 = .ok (.iconst 0, 1) := by decide +kernel
theorem dX12_valueOf_3 : decode cX12_valueOf 3 = .ok (.aload_n 0, 1) := by decide +kernel
theorem dX12_valueOf_4 : decode cX12_valueOf 4 = .ok (.getfield 497, 3) := by decide +kernel
theorem dX12_valueOf_7 : decode cX12_valueOf 7 = .ok (.iconst 1, 1) := by decide +kernel
theorem dX12_valueOf_8 : decode cX12_valueOf 8 = .ok (.isub, 1) := by decide +kernel
theorem dX12_valueOf_9 : decode cX12_valueOf 9 = .ok (.invokevirtual 504, 3) := by decide +kernel
theorem dX12_valueOf_12 : decode cX12_valueOf 12 = .ok (.ifCond .eq 7, 3) := by decide +kernel
theorem dX12_valueOf_15 : decode cX12_valueOf 15 = .ok (.iconst 0, 1) := by decide +kernel
theorem dX12_valueOf_16 : decode cX12_valueOf 16 = .ok (.goto 9, 3) := by decide +kernel
theorem dX12_valueOf_19 : decode cX12_valueOf 19 = .ok (.aload_n 0, 1) := by decide +kernel
theorem dX12_valueOf_20 : decode cX12_valueOf 20 = .ok (.getfield 87, 3) := by decide +kernel
theorem dX12_valueOf_23 : decode cX12_valueOf 23 = .ok (.iload_n 1, 1) := by decide +kernel
theorem dX12_valueOf_24 : decode cX12_valueOf 24 = .ok (.iaload, 1) := by decide +kernel
theorem dX12_valueOf_25 : decode cX12_valueOf 25 = .ok (.ireturn, 1) := by decide +kernel
theorem dX12_nameNear_0 : decode cX12_nameNear 0 = .ok (.aload_n 0, 1) := by decide +kernel
theorem dX12_nameNear_1 : decode cX12_nameNear 1 = .ok (.iload_n 1, 1) := by decide +kernel
theorem dX12_nameNear_2 : decode cX12_nameNear 2 = .ok (.iconst 0, 1) := by decide +kernel
theorem dX12_nameNear_3 : decode cX12_nameNear 3 = .ok (.sipush 4095, 3) := by decide +kernel
theorem dX12_nameNear_6 : decode cX12_nameNear 6 = .ok (.invokevirtual 504, 3) := by decide +kernel
theorem dX12_nameNear_9 : decode cX12_nameNear 9 = .ok (.ifCond .eq 5, 3) := by decide +kernel
theorem dX12_nameNear_12 : decode cX12_nameNear 12 = .ok (.iconst 0, 1) := by decide +kernel
theorem dX12_nameNear_13 : decode cX12_nameNear 13 = .ok (.ireturn, 1) := by decide +kernel
theorem dX12_nameNear_14 : decode cX12_nameNear 14 = .ok (.iconst (-1), 1) := by decide +kernel
theorem dX12_nameNear_15 : decode cX12_nameNear 15 = .ok (.istore_n 2, 1) := by decide +kernel
theorem dX12_nameNear_16 : decode cX12_nameNear 16 = .ok (.iconst 0, 1) := by decide +kernel
theorem dX12_nameNear_17 : decode cX12_nameNear 17 = .ok (.istore_n 3, 1) := by decide +kernel
theorem dX12_nameNear_18 : decode cX12_nameNear 18 = .ok (.iload_n 3, 1) := by decide +kernel
theorem dX12_nameNear_19 : decode cX12_nameNear 19 = .ok (.aload_n 0, 1) := by decide +kernel
theorem dX12_nameNear_20 : decode cX12_nameNear 20 = .ok (.getfield 497, 3) := by decide +kernel
theorem dX12_nameNear_23 : decode cX12_nameNear 23 = .ok (.if_icmp .ge 44, 3) := by decide +kernel
theorem dX12_nameNear_26 : decode cX12_nameNear 26 = .ok (.aload_n 0, 1) := by decide +kernel
theorem dX12_nameNear_27 : decode cX12_nameNear 27 = .ok (.getfield 87, 3) := by decide +kernel
theorem dX12_nameNear_30 : decode cX12_nameNear 30 = .ok (.iload_n 3, 1) := by decide +kernel
theorem dX12_nameNear_31 : decode cX12_nameNear 31 = .ok (.iaload, 1) := by decide +kernel
theorem dX12_nameNear_32 : decode cX12_nameNear 32 = .ok (.iconst 0, 1) := by decide +kernel
theorem dX12_nameNear_33 : decode cX12_nameNear 33 = .ok (.iload_n 1, 1) := by decide +kernel
theorem dX12_nameNear_34 : decode cX12_nameNear 34 = .ok (.invokestatic 96, 3) := by decide +kernel
theorem dX12_nameNear_37 : decode cX12_nameNear 37 = .ok (.ifCond .eq 24, 3) := by decide +kernel
theorem dX12_nameNear_40 : decode cX12_nameNear 40 = .ok (.iload_n 2, 1) := by decide +kernel
theorem dX12_nameNear_41 : decode cX12_nameNear 41 = .ok (.ifCond .lt 18, 3) := by decide +kernel
theorem dX12_nameNear_44 : decode cX12_nameNear 44 = .ok (.aload_n 0, 1) := by decide +kernel
theorem dX12_nameNear_45 : decode cX12_nameNear 45 = .ok (.getfield 87, 3) := by decide +kernel
theorem dX12_nameNear_48 : decode cX12_nameNear 48 = .ok (.iload_n 3, 1) := by decide +kernel
theorem dX12_nameNear_49 : decode cX12_nameNear 49 = .ok (.iaload, 1) := by decide +kernel
theorem dX12_nameNear_50 : decode cX12_nameNear 50 = .ok (.aload_n 0, 1) := by decide +kernel
theorem dX12_nameNear_51 : decode cX12_nameNear 51 = .ok (.getfield 87, 3) := by decide +kernel
theorem dX12_nameNear_54 : decode cX12_nameNear 54 = .ok (.iload_n 2, 1) := by decide +kernel
theorem dX12_nameNear_55 : decode cX12_nameNear 55 = .ok (.iaload, 1) := by decide +kernel
theorem dX12_nameNear_56 : decode cX12_nameNear 56 = .ok (.if_icmp .le 5, 3) := by decide +kernel
theorem dX12_nameNear_59 : decode cX12_nameNear 59 = .ok (.iload_n 3, 1) := by decide +kernel
theorem dX12_nameNear_60 : decode cX12_nameNear 60 = .ok (.istore_n 2, 1) := by decide +kernel
theorem dX12_nameNear_61 : decode cX12_nameNear 61 = .ok (.iinc 3 1, 3) := by decide +kernel
theorem dX12_nameNear_64 : decode cX12_nameNear 64 = .ok (.goto (-46), 3) := by decide +kernel
theorem dX12_nameNear_67 : decode cX12_nameNear 67 = .ok (.iload_n 2, 1) := by decide +kernel
theorem dX12_nameNear_68 : decode cX12_nameNear 68 = .ok (.ireturn, 1) := by decide +kernel
theorem dX12_lineOf_0 : decode cX12_lineOf 0 = .ok (.aload_n 0, 1) := by decide +kernel
theorem dX12_lineOf_1 : decode cX12_lineOf 1 = .ok (.iload_n 1, 1) := by decide +kernel
theorem dX12_lineOf_2 : decode cX12_lineOf 2 = .ok (.iconst 0, 1) := by decide +kernel
theorem dX12_lineOf_3 : decode cX12_lineOf 3 = .ok (.sipush 4095, 3) := by decide +kernel
theorem dX12_lineOf_6 : decode cX12_lineOf 6 = .ok (.invokevirtual 504, 3) := by decide +kernel
theorem dX12_lineOf_9 : decode cX12_lineOf 9 = .ok (.ifCond .eq 5, 3) := by decide +kernel
theorem dX12_lineOf_12 : decode cX12_lineOf 12 = .ok (.iconst 0, 1) := by decide +kernel
theorem dX12_lineOf_13 : decode cX12_lineOf 13 = .ok (.ireturn, 1) := by decide +kernel
theorem dX12_lineOf_14 : decode cX12_lineOf 14 = .ok (.iload_n 1, 1) := by decide +kernel
theorem dX12_lineOf_15 : decode cX12_lineOf 15 = .ok (.invokestatic 117, 3) := by decide +kernel
theorem dX12_lineOf_18 : decode cX12_lineOf 18 = .ok (.ifCond .eq 7, 3) := by decide +kernel
theorem dX12_lineOf_21 : decode cX12_lineOf 21 = .ok (.iconst 0, 1) := by decide +kernel
theorem dX12_lineOf_22 : decode cX12_lineOf 22 = .ok (.goto 17, 3) := by decide +kernel
theorem dX12_lineOf_25 : decode cX12_lineOf 25 = .ok (.aload_n 0, 1) := by decide +kernel
theorem dX12_lineOf_26 : decode cX12_lineOf 26 = .ok (.getfield 81, 3) := by decide +kernel
theorem dX12_lineOf_29 : decode cX12_lineOf 29 = .ok (.aload_n 0, 1) := by decide +kernel
theorem dX12_lineOf_30 : decode cX12_lineOf 30 = .ok (.iload_n 1, 1) := by decide +kernel
theorem dX12_lineOf_31 : decode cX12_lineOf 31 = .ok (.invokevirtual 121, 3) := by decide +kernel
theorem dX12_lineOf_34 : decode cX12_lineOf 34 = .ok (.sipush 1101, 3) := by decide +kernel
theorem dX12_lineOf_37 : decode cX12_lineOf 37 = .ok (.isub, 1) := by decide +kernel
theorem dX12_lineOf_38 : decode cX12_lineOf 38 = .ok (.iaload, 1) := by decide +kernel
theorem dX12_lineOf_39 : decode cX12_lineOf 39 = .ok (.istore_n 2, 1) := by decide +kernel
theorem dX12_lineOf_40 : decode cX12_lineOf 40 = .ok (.iload_n 2, 1) := by decide +kernel
theorem dX12_lineOf_41 : decode cX12_lineOf 41 = .ok (.ifCond .ne 7, 3) := by decide +kernel
theorem dX12_lineOf_44 : decode cX12_lineOf 44 = .ok (.iconst (-1), 1) := by decide +kernel
theorem dX12_lineOf_45 : decode cX12_lineOf 45 = .ok (.goto 4, 3) := by decide +kernel
theorem dX12_lineOf_48 : decode cX12_lineOf 48 = .ok (.iload_n 2, 1) := by decide +kernel
theorem dX12_lineOf_49 : decode cX12_lineOf 49 = .ok (.ireturn, 1) := by decide +kernel
theorem dX12_reset_0 : decode cX12_reset 0 = .ok (.aload_n 0, 1) := by decide +kernel
theorem dX12_reset_1 : decode cX12_reset 1 = .ok (.iconst 0, 1) := by decide +kernel
theorem dX12_reset_2 : decode cX12_reset 2 = .ok (.putfield 93, 3) := by decide +kernel
theorem dX12_reset_5 : decode cX12_reset 5 = .ok (.aload_n 0, 1) := by decide +kernel
theorem dX12_reset_6 : decode cX12_reset 6 = .ok (.invokevirtual 90, 3) := by decide +kernel
theorem dX12_reset_9 : decode cX12_reset 9 = .ok (.aload_n 0, 1) := by decide +kernel
theorem dX12_reset_10 : decode cX12_reset 10 = .ok (.getfield 9, 3) := by decide +kernel
theorem dX12_reset_13 : decode cX12_reset 13 = .ok (.iconst 4, 1) := by decide +kernel
theorem dX12_reset_14 : decode cX12_reset 14 = .ok (.iaload, 1) := by decide +kernel
theorem dX12_reset_15 : decode cX12_reset 15 = .ok (.ireturn, 1) := by decide +kernel
theorem dX12_key_0 : decode cX12_key 0 = .ok (.aload_n 0, 1) := by decide +kernel
theorem dX12_key_1 : decode cX12_key 1 = .ok (.iload_n 1, 1) := by decide +kernel
theorem dX12_key_2 : decode cX12_key 2 = .ok (.iconst 0, 1) := by decide +kernel
theorem dX12_key_3 : decode cX12_key 3 = .ok (.sipush 255, 3) := by decide +kernel
theorem dX12_key_6 : decode cX12_key 6 = .ok (.invokevirtual 504, 3) := by decide +kernel
theorem dX12_key_9 : decode cX12_key 9 = .ok (.ifCond .eq 5, 3) := by decide +kernel
theorem dX12_key_12 : decode cX12_key 12 = .ok (.iconst 0, 1) := by decide +kernel
theorem dX12_key_13 : decode cX12_key 13 = .ok (.ireturn, 1) := by decide +kernel
theorem dX12_key_14 : decode cX12_key 14 = .ok (.aload_n 0, 1) := by decide +kernel
theorem dX12_key_15 : decode cX12_key 15 = .ok (.aload_n 0, 1) := by decide +kernel
theorem dX12_key_16 : decode cX12_key 16 = .ok (.getfield 9, 3) := by decide +kernel
theorem dX12_key_19 : decode cX12_key 19 = .ok (.bipush 18, 2) := by decide +kernel
theorem dX12_key_21 : decode cX12_key 21 = .ok (.iaload, 1) := by decide +kernel
theorem dX12_key_22 : decode cX12_key 22 = .ok (.bipush 16, 2) := by decide +kernel
theorem dX12_key_24 : decode cX12_key 24 = .ok (.if_icmp .ne 7, 3) := by decide +kernel
theorem dX12_key_27 : decode cX12_key 27 = .ok (.iconst 1, 1) := by decide +kernel
theorem dX12_key_28 : decode cX12_key 28 = .ok (.goto 4, 3) := by decide +kernel
theorem dX12_key_31 : decode cX12_key 31 = .ok (.iconst 0, 1) := by decide +kernel
theorem dX12_key_32 : decode cX12_key 32 = .ok (.iconst 2, 1) := by decide +kernel
theorem dX12_key_33 : decode cX12_key 33 = .ok (.invokevirtual 100, 3) := by decide +kernel
theorem dX12_key_36 : decode cX12_key 36 = .ok (.ifCond .eq 5, 3) := by decide +kernel
theorem dX12_key_39 : decode cX12_key 39 = .ok (.iconst 0, 1) := by decide +kernel
theorem dX12_key_40 : decode cX12_key 40 = .ok (.ireturn, 1) := by decide +kernel
theorem dX12_key_41 : decode cX12_key 41 = .ok (.aload_n 0, 1) := by decide +kernel
theorem dX12_key_42 : decode cX12_key 42 = .ok (.getfield 9, 3) := by decide +kernel
theorem dX12_key_45 : decode cX12_key 45 = .ok (.bipush 21, 2) := by decide +kernel
theorem dX12_key_47 : decode cX12_key 47 = .ok (.aload_n 0, 1) := by decide +kernel
theorem dX12_key_48 : decode cX12_key 48 = .ok (.getfield 9, 3) := by decide +kernel
theorem dX12_key_51 : decode cX12_key 51 = .ok (.bipush 18, 2) := by decide +kernel
theorem dX12_key_53 : decode cX12_key 53 = .ok (.iaload, 1) := by decide +kernel
theorem dX12_key_54 : decode cX12_key 54 = .ok (.iadd, 1) := by decide +kernel
theorem dX12_key_55 : decode cX12_key 55 = .ok (.iload_n 1, 1) := by decide +kernel
theorem dX12_key_56 : decode cX12_key 56 = .ok (.iastore, 1) := by decide +kernel
theorem dX12_key_57 : decode cX12_key 57 = .ok (.aload_n 0, 1) := by decide +kernel
theorem dX12_key_58 : decode cX12_key 58 = .ok (.getfield 9, 3) := by decide +kernel
theorem dX12_key_61 : decode cX12_key 61 = .ok (.bipush 18, 2) := by decide +kernel
theorem dX12_key_63 : decode cX12_key 63 = .ok (.dup2, 1) := by decide +kernel
theorem dX12_key_64 : decode cX12_key 64 = .ok (.iaload, 1) := by decide +kernel
theorem dX12_key_65 : decode cX12_key 65 = .ok (.iconst 1, 1) := by decide +kernel
theorem dX12_key_66 : decode cX12_key 66 = .ok (.iadd, 1) := by decide +kernel
theorem dX12_key_67 : decode cX12_key 67 = .ok (.iastore, 1) := by decide +kernel
theorem dX12_key_68 : decode cX12_key 68 = .ok (.aload_n 0, 1) := by decide +kernel
theorem dX12_key_69 : decode cX12_key 69 = .ok (.getfield 9, 3) := by decide +kernel
theorem dX12_key_72 : decode cX12_key 72 = .ok (.bipush 11, 2) := by decide +kernel
theorem dX12_key_74 : decode cX12_key 74 = .ok (.dup2, 1) := by decide +kernel
theorem dX12_key_75 : decode cX12_key 75 = .ok (.iaload, 1) := by decide +kernel
theorem dX12_key_76 : decode cX12_key 76 = .ok (.iconst 2, 1) := by decide +kernel
theorem dX12_key_77 : decode cX12_key 77 = .ok (.ior, 1) := by decide +kernel
theorem dX12_key_78 : decode cX12_key 78 = .ok (.iastore, 1) := by decide +kernel
theorem dX12_key_79 : decode cX12_key 79 = .ok (.aload_n 0, 1) := by decide +kernel
theorem dX12_key_80 : decode cX12_key 80 = .ok (.invokevirtual 281, 3) := by decide +kernel
theorem dX12_key_83 : decode cX12_key 83 = .ok (.aload_n 0, 1) := by decide +kernel
theorem dX12_key_84 : decode cX12_key 84 = .ok (.getfield 9, 3) := by decide +kernel
theorem dX12_key_87 : decode cX12_key 87 = .ok (.bipush 18, 2) := by decide +kernel
theorem dX12_key_89 : decode cX12_key 89 = .ok (.iaload, 1) := by decide +kernel
theorem dX12_key_90 : decode cX12_key 90 = .ok (.ireturn, 1) := by decide +kernel
theorem dX12_signal_0 : decode cX12_signal 0 = .ok (.aload_n 0, 1) := by decide +kernel
theorem dX12_signal_1 : decode cX12_signal 1 = .ok (.iconst 0, 1) := by decide +kernel
theorem dX12_signal_2 : decode cX12_signal 2 = .ok (.putfield 93, 3) := by decide +kernel
theorem dX12_signal_5 : decode cX12_signal 5 = .ok (.aload_n 0, 1) := by decide +kernel
theorem dX12_signal_6 : decode cX12_signal 6 = .ok (.getfield 9, 3) := by decide +kernel
theorem dX12_signal_9 : decode cX12_signal 9 = .ok (.bipush 11, 2) := by decide +kernel
theorem dX12_signal_11 : decode cX12_signal 11 = .ok (.dup2, 1) := by decide +kernel
theorem dX12_signal_12 : decode cX12_signal 12 = .ok (.iaload, 1) := by decide +kernel
theorem dX12_signal_13 : decode cX12_signal 13 = .ok (.iconst 4, 1) := by decide +kernel
theorem dX12_signal_14 : decode cX12_signal 14 = .ok (.ior, 1) := by decide +kernel
theorem dX12_signal_15 : decode cX12_signal 15 = .ok (.iastore, 1) := by decide +kernel
theorem dX12_signal_16 : decode cX12_signal 16 = .ok (.aload_n 0, 1) := by decide +kernel
theorem dX12_signal_17 : decode cX12_signal 17 = .ok (.invokevirtual 281, 3) := by decide +kernel
theorem dX12_signal_20 : decode cX12_signal 20 = .ok (.aload_n 0, 1) := by decide +kernel
theorem dX12_signal_21 : decode cX12_signal 21 = .ok (.getfield 9, 3) := by decide +kernel
theorem dX12_signal_24 : decode cX12_signal 24 = .ok (.bipush 11, 2) := by decide +kernel
theorem dX12_signal_26 : decode cX12_signal 26 = .ok (.iaload, 1) := by decide +kernel
theorem dX12_signal_27 : decode cX12_signal 27 = .ok (.ireturn, 1) := by decide +kernel
theorem dX12_nmi_0 : decode cX12_nmi 0 = .ok (.aload_n 0, 1) := by decide +kernel
theorem dX12_nmi_1 : decode cX12_nmi 1 = .ok (.iconst 0, 1) := by decide +kernel
theorem dX12_nmi_2 : decode cX12_nmi 2 = .ok (.putfield 93, 3) := by decide +kernel
theorem dX12_nmi_5 : decode cX12_nmi 5 = .ok (.aload_n 0, 1) := by decide +kernel
theorem dX12_nmi_6 : decode cX12_nmi 6 = .ok (.getfield 9, 3) := by decide +kernel
theorem dX12_nmi_9 : decode cX12_nmi 9 = .ok (.bipush 6, 2) := by decide +kernel
theorem dX12_nmi_11 : decode cX12_nmi 11 = .ok (.iaload, 1) := by decide +kernel
theorem dX12_nmi_12 : decode cX12_nmi 12 = .ok (.iconst 1, 1) := by decide +kernel
theorem dX12_nmi_13 : decode cX12_nmi 13 = .ok (.if_icmp .ne 7, 3) := by decide +kernel
theorem dX12_nmi_16 : decode cX12_nmi 16 = .ok (.iconst 1, 1) := by decide +kernel
theorem dX12_nmi_17 : decode cX12_nmi 17 = .ok (.goto 4, 3) := by decide +kernel
theorem dX12_nmi_20 : decode cX12_nmi 20 = .ok (.iconst 0, 1) := by decide +kernel
theorem dX12_nmi_21 : decode cX12_nmi 21 = .ok (.istore_n 1, 1) := by decide +kernel
theorem dX12_nmi_22 : decode cX12_nmi 22 = .ok (.aload_n 0, 1) := by decide +kernel
theorem dX12_nmi_23 : decode cX12_nmi 23 = .ok (.getfield 9, 3) := by decide +kernel
theorem dX12_nmi_26 : decode cX12_nmi 26 = .ok (.bipush 6, 2) := by decide +kernel
theorem dX12_nmi_28 : decode cX12_nmi 28 = .ok (.iconst 1, 1) := by decide +kernel
theorem dX12_nmi_29 : decode cX12_nmi 29 = .ok (.iastore, 1) := by decide +kernel
theorem dX12_nmi_30 : decode cX12_nmi 30 = .ok (.aload_n 0, 1) := by decide +kernel
theorem dX12_nmi_31 : decode cX12_nmi 31 = .ok (.invokevirtual 281, 3) := by decide +kernel
theorem dX12_nmi_34 : decode cX12_nmi 34 = .ok (.iload_n 1, 1) := by decide +kernel
theorem dX12_nmi_35 : decode cX12_nmi 35 = .ok (.ireturn, 1) := by decide +kernel
theorem dX12_poke_0 : decode cX12_poke 0 = .ok (.aload_n 0, 1) := by decide +kernel
theorem dX12_poke_1 : decode cX12_poke 1 = .ok (.iload_n 1, 1) := by decide +kernel
theorem dX12_poke_2 : decode cX12_poke 2 = .ok (.iconst 0, 1) := by decide +kernel
theorem dX12_poke_3 : decode cX12_poke 3 = .ok (.sipush 4095, 3) := by decide +kernel
theorem dX12_poke_6 : decode cX12_poke 6 = .ok (.invokevirtual 504, 3) := by decide +kernel
theorem dX12_poke_9 : decode cX12_poke 9 = .ok (.ifCond .ne 34, 3) := by decide +kernel
theorem dX12_poke_12 : decode cX12_poke 12 = .ok (.aload_n 0, 1) := by decide +kernel
theorem dX12_poke_13 : decode cX12_poke 13 = .ok (.iload_n 1, 1) := by decide +kernel
theorem dX12_poke_14 : decode cX12_poke 14 = .ok (.invokestatic 117, 3) := by decide +kernel
theorem dX12_poke_17 : decode cX12_poke 17 = .ok (.ifCond .ne 14, 3) := by decide +kernel
theorem dX12_poke_20 : decode cX12_poke 20 = .ok (.iload_n 2, 1) := by decide +kernel
theorem dX12_poke_21 : decode cX12_poke 21 = .ok (.iconst 0, 1) := by decide +kernel
theorem dX12_poke_22 : decode cX12_poke 22 = .ok (.sipush 255, 3) := by decide +kernel
theorem dX12_poke_25 : decode cX12_poke 25 = .ok (.invokestatic 96, 3) := by decide +kernel
theorem dX12_poke_28 : decode cX12_poke 28 = .ok (.ifCond .ne 7, 3) := by decide +kernel
theorem dX12_poke_31 : decode cX12_poke 31 = .ok (.iconst 1, 1) := by decide +kernel
theorem dX12_poke_32 : decode cX12_poke 32 = .ok (.goto 4, 3) := by decide +kernel
theorem dX12_poke_35 : decode cX12_poke 35 = .ok (.iconst 0, 1) := by decide +kernel
theorem dX12_poke_36 : decode cX12_poke 36 = .ok (.iconst 1, 1) := by decide +kernel
theorem dX12_poke_37 : decode cX12_poke 37 = .ok (.invokevirtual 100, 3) := by decide +kernel
theorem dX12_poke_40 : decode cX12_poke 40 = .ok (.ifCond .eq 5, 3) := by decide +kernel
theorem dX12_poke_43 : decode cX12_poke 43 = .ok (.iconst 0, 1) := by decide +kernel
theorem dX12_poke_44 : decode cX12_poke 44 = .ok (.ireturn, 1) := by decide +kernel
theorem dX12_poke_45 : decode cX12_poke 45 = .ok (.aload_n 0, 1) := by decide +kernel
theorem dX12_poke_46 : decode cX12_poke 46 = .ok (.getfield 9, 3) := by decide +kernel
theorem dX12_poke_49 : decode cX12_poke 49 = .ok (.aload_n 0, 1) := by decide +kernel
theorem dX12_poke_50 : decode cX12_poke 50 = .ok (.iload_n 1, 1) := by decide +kernel
theorem dX12_poke_51 : decode cX12_poke 51 = .ok (.invokevirtual 121, 3) := by decide +kernel
theorem dX12_poke_54 : decode cX12_poke 54 = .ok (.iaload, 1) := by decide +kernel
theorem dX12_poke_55 : decode cX12_poke 55 = .ok (.istore_n 3, 1) := by decide +kernel
theorem dX12_poke_56 : decode cX12_poke 56 = .ok (.aload_n 0, 1) := by decide +kernel
theorem dX12_poke_57 : decode cX12_poke 57 = .ok (.getfield 9, 3) := by decide +kernel
theorem dX12_poke_60 : decode cX12_poke 60 = .ok (.aload_n 0, 1) := by decide +kernel
theorem dX12_poke_61 : decode cX12_poke 61 = .ok (.iload_n 1, 1) := by decide +kernel
theorem dX12_poke_62 : decode cX12_poke 62 = .ok (.invokevirtual 121, 3) := by decide +kernel
theorem dX12_poke_65 : decode cX12_poke 65 = .ok (.iload_n 2, 1) := by decide +kernel
theorem dX12_poke_66 : decode cX12_poke 66 = .ok (.iastore, 1) := by decide +kernel
theorem dX12_poke_67 : decode cX12_poke 67 = .ok (.aload_n 0, 1) := by decide +kernel
theorem dX12_poke_68 : decode cX12_poke 68 = .ok (.invokevirtual 281, 3) := by decide +kernel
theorem dX12_poke_71 : decode cX12_poke 71 = .ok (.iload_n 3, 1) := by decide +kernel
theorem dX12_poke_72 : decode cX12_poke 72 = .ok (.ireturn, 1) := by decide +kernel
theorem dX12_setRegister_0 : decode cX12_setRegister 0 = .ok (.aload_n 0, 1) := by decide +kernel
theorem dX12_setRegister_1 : decode cX12_setRegister 1 = .ok (.iload_n 1, 1) := by decide +kernel
theorem dX12_setRegister_2 : decode cX12_setRegister 2 = .ok (.iconst 0, 1) := by decide +kernel
theorem dX12_setRegister_3 : decode cX12_setRegister 3 = .ok (.iconst 4, 1) := by decide +kernel
theorem dX12_setRegister_4 : decode cX12_setRegister 4 = .ok (.invokevirtual 504, 3) := by decide +kernel
theorem dX12_setRegister_7 : decode cX12_setRegister 7 = .ok (.ifCond .ne 48, 3) := by decide +kernel
theorem dX12_setRegister_10 : decode cX12_setRegister 10 = .ok (.aload_n 0, 1) := by decide +kernel
theorem dX12_setRegister_11 : decode cX12_setRegister 11 = .ok (.iload_n 2, 1) := by decide +kernel
theorem dX12_setRegister_12 : decode cX12_setRegister 12 = .ok (.iconst 0, 1) := by decide +kernel
theorem dX12_setRegister_13 : decode cX12_setRegister 13 = .ok (.iload_n 1, 1) := by decide +kernel
theorem dX12_setRegister_14 : decode cX12_setRegister 14 = .ok (.iconst 3, 1) := by decide +kernel
theorem dX12_setRegister_15 : decode cX12_setRegister 15 = .ok (.if_icmp .ne 8, 3) := by decide +kernel
theorem dX12_setRegister_18 : decode cX12_setRegister 18 = .ok (.bipush 31, 2) := by decide +kernel
theorem dX12_setRegister_20 : decode cX12_setRegister 20 = .ok (.goto 17, 3) := by decide +kernel
theorem dX12_setRegister_23 : decode cX12_setRegister 23 = .ok (.iload_n 1, 1) := by decide +kernel
theorem dX12_setRegister_24 : decode cX12_setRegister 24 = .ok (.iconst 4, 1) := by decide +kernel
theorem dX12_setRegister_25 : decode cX12_setRegister 25 = .ok (.if_icmp .ne 9, 3) := by decide +kernel
theorem dX12_setRegister_28 : decode cX12_setRegister 28 = .ok (.sipush 4095, 3) := by decide +kernel
theorem dX12_setRegister_31 : decode cX12_setRegister 31 = .ok (.goto 6, 3) := by decide +kernel
theorem dX12_setRegister_34 : decode cX12_setRegister 34 = .ok (.sipush 255, 3) := by decide +kernel
theorem dX12_setRegister_37 : decode cX12_setRegister 37 = .ok (.invokestatic 96, 3) := by decide +kernel
theorem dX12_setRegister_40 : decode cX12_setRegister 40 = .ok (.ifCond .ne 7, 3) := by decide +kernel
theorem dX12_setRegister_43 : decode cX12_setRegister 43 = .ok (.iconst 1, 1) := by decide +kernel
theorem dX12_setRegister_44 : decode cX12_setRegister 44 = .ok (.goto 4, 3) := by decide +kernel
theorem dX12_setRegister_47 : decode cX12_setRegister 47 = .ok (.iconst 0, 1) := by decide +kernel
theorem dX12_setRegister_48 : decode cX12_setRegister 48 = .ok (.iconst 2, 1) := by decide +kernel
theorem dX12_setRegister_49 : decode cX12_setRegister 49 = .ok (.invokevirtual 100, 3) := by decide +kernel
theorem dX12_setRegister_52 : decode cX12_setRegister 52 = .ok (.ifCond .eq 5, 3) := by decide +kernel
theorem dX12_setRegister_55 : decode cX12_setRegister 55 = .ok (.iconst 0, 1) := by decide +kernel
theorem dX12_setRegister_56 : decode cX12_setRegister 56 = .ok (.ireturn, 1) := by decide +kernel
theorem dX12_setRegister_57 : decode cX12_setRegister 57 = .ok (.aload_n 0, 1) := by decide +kernel
theorem dX12_setRegister_58 : decode cX12_setRegister 58 = .ok (.getfield 9, 3) := by decide +kernel
theorem dX12_setRegister_61 : decode cX12_setRegister 61 = .ok (.iload_n 1, 1) := by decide +kernel
theorem dX12_setRegister_62 : decode cX12_setRegister 62 = .ok (.iaload, 1) := by decide +kernel
theorem dX12_setRegister_63 : decode cX12_setRegister 63 = .ok (.istore_n 3, 1) := by decide +kernel
theorem dX12_setRegister_64 : decode cX12_setRegister 64 = .ok (.aload_n 0, 1) := by decide +kernel
theorem dX12_setRegister_65 : decode cX12_setRegister 65 = .ok (.getfield 9, 3) := by decide +kernel
theorem dX12_setRegister_68 : decode cX12_setRegister 68 = .ok (.iload_n 1, 1) := by decide +kernel
theorem dX12_setRegister_69 : decode cX12_setRegister 69 = .ok (.iload_n 2, 1) := by decide +kernel
theorem dX12_setRegister_70 : decode cX12_setRegister 70 = .ok (.iastore, 1) := by decide +kernel
theorem dX12_setRegister_71 : decode cX12_setRegister 71 = .ok (.aload_n 0, 1) := by decide +kernel
theorem dX12_setRegister_72 : decode cX12_setRegister 72 = .ok (.invokevirtual 281, 3) := by decide +kernel
theorem dX12_setRegister_75 : decode cX12_setRegister 75 = .ok (.iload_n 3, 1) := by decide +kernel
theorem dX12_setRegister_76 : decode cX12_setRegister 76 = .ok (.ireturn, 1) := by decide +kernel
theorem dX12_step_0 : decode cX12_step 0 = .ok (.aload_n 0, 1) := by decide +kernel
theorem dX12_step_1 : decode cX12_step 1 = .ok (.iconst 0, 1) := by decide +kernel
theorem dX12_step_2 : decode cX12_step 2 = .ok (.putfield 93, 3) := by decide +kernel
theorem dX12_step_5 : decode cX12_step 5 = .ok (.aload_n 0, 1) := by decide +kernel
theorem dX12_step_6 : decode cX12_step 6 = .ok (.invokevirtual 507, 3) := by decide +kernel
theorem dX12_step_9 : decode cX12_step 9 = .ok (.ireturn, 1) := by decide +kernel
theorem dX12_breakAt_0 : decode cX12_breakAt 0 = .ok (.iconst 0, 1) := by decide +kernel
theorem dX12_breakAt_1 : decode cX12_breakAt 1 = .ok (.istore_n 2, 1) := by decide +kernel
theorem dX12_breakAt_2 : decode cX12_breakAt 2 = .ok (.iload_n 2, 1) := by decide +kernel
theorem dX12_breakAt_3 : decode cX12_breakAt 3 = .ok (.aload_n 0, 1) := by decide +kernel
theorem dX12_breakAt_4 : decode cX12_breakAt 4 = .ok (.getfield 501, 3) := by decide +kernel
theorem dX12_breakAt_7 : decode cX12_breakAt 7 = .ok (.if_icmp .ge 21, 3) := by decide +kernel
theorem dX12_breakAt_10 : decode cX12_breakAt 10 = .ok (.aload_n 0, 1) := by decide +kernel
theorem dX12_breakAt_11 : decode cX12_breakAt 11 = .ok (.getfield 25, 3) := by decide +kernel
theorem dX12_breakAt_14 : decode cX12_breakAt 14 = .ok (.iload_n 2, 1) := by decide +kernel
theorem dX12_breakAt_15 : decode cX12_breakAt 15 = .ok (.iaload, 1) := by decide +kernel
theorem dX12_breakAt_16 : decode cX12_breakAt 16 = .ok (.iload_n 1, 1) := by decide +kernel
theorem dX12_breakAt_17 : decode cX12_breakAt 17 = .ok (.if_icmp .ne 5, 3) := by decide +kernel
theorem dX12_breakAt_20 : decode cX12_breakAt 20 = .ok (.iload_n 2, 1) := by decide +kernel
theorem dX12_breakAt_21 : decode cX12_breakAt 21 = .ok (.ireturn, 1) := by decide +kernel
theorem dX12_breakAt_22 : decode cX12_breakAt 22 = .ok (.iinc 2 1, 3) := by decide +kernel
theorem dX12_breakAt_25 : decode cX12_breakAt 25 = .ok (.goto (-23), 3) := by decide +kernel
theorem dX12_breakAt_28 : decode cX12_breakAt 28 = .ok (.iconst (-1), 1) := by decide +kernel
theorem dX12_breakAt_29 : decode cX12_breakAt 29 = .ok (.ireturn, 1) := by decide +kernel
theorem dX12_isStoppedByBreak_0 : decode cX12_isStoppedByBreak 0 = .ok (.aload_n 0, 1) := by decide +kernel
theorem dX12_isStoppedByBreak_1 : decode cX12_isStoppedByBreak 1 = .ok (.getfield 9, 3) := by decide +kernel
theorem dX12_isStoppedByBreak_4 : decode cX12_isStoppedByBreak 4 = .ok (.iconst 5, 1) := by decide +kernel
theorem dX12_isStoppedByBreak_5 : decode cX12_isStoppedByBreak 5 = .ok (.iaload, 1) := by decide +kernel
theorem dX12_isStoppedByBreak_6 : decode cX12_isStoppedByBreak 6 = .ok (.ifCond .ne 10, 3) := by decide +kernel
theorem dX12_isStoppedByBreak_9 : decode cX12_isStoppedByBreak 9 = .ok (.aload_n 0, 1) := by decide +kernel
theorem dX12_isStoppedByBreak_10 : decode cX12_isStoppedByBreak 10 = .ok (.invokevirtual 510, 3) := by decide +kernel
theorem dX12_isStoppedByBreak_13 : decode cX12_isStoppedByBreak 13 = .ok (.ifCond .eq 5, 3) := by decide +kernel
theorem dX12_isStoppedByBreak_16 : decode cX12_isStoppedByBreak 16 = .ok (.iconst 0, 1) := by decide +kernel
theorem dX12_isStoppedByBreak_17 : decode cX12_isStoppedByBreak 17 = .ok (.ireturn, 1) := by decide +kernel
theorem dX12_isStoppedByBreak_18 : decode cX12_isStoppedByBreak 18 = .ok (.aload_n 0, 1) := by decide +kernel
theorem dX12_isStoppedByBreak_19 : decode cX12_isStoppedByBreak 19 = .ok (.aload_n 0, 1) := by decide +kernel
theorem dX12_isStoppedByBreak_20 : decode cX12_isStoppedByBreak 20 = .ok (.getfield 9, 3) := by decide +kernel
theorem dX12_isStoppedByBreak_23 : decode cX12_isStoppedByBreak 23 = .ok (.iconst 4, 1) := by decide +kernel
theorem dX12_isStoppedByBreak_24 : decode cX12_isStoppedByBreak 24 = .ok (.iaload, 1) := by decide +kernel
theorem dX12_isStoppedByBreak_25 : decode cX12_isStoppedByBreak 25 = .ok (.invokevirtual 513, 3) := by decide +kernel
theorem dX12_isStoppedByBreak_28 : decode cX12_isStoppedByBreak 28 = .ok (.istore_n 1, 1) := by decide +kernel
theorem dX12_isStoppedByBreak_29 : decode cX12_isStoppedByBreak 29 = .ok (.iload_n 1, 1) := by decide +kernel
theorem dX12_isStoppedByBreak_30 : decode cX12_isStoppedByBreak 30 = .ok (.ifCond .ge 5, 3) := by decide +kernel
theorem dX12_isStoppedByBreak_33 : decode cX12_isStoppedByBreak 33 = .ok (.iconst 0, 1) := by decide +kernel
theorem dX12_isStoppedByBreak_34 : decode cX12_isStoppedByBreak 34 = .ok (.ireturn, 1) := by decide +kernel
theorem dX12_isStoppedByBreak_35 : decode cX12_isStoppedByBreak 35 = .ok (.aload_n 0, 1) := by decide +kernel
theorem dX12_isStoppedByBreak_36 : decode cX12_isStoppedByBreak 36 = .ok (.getfield 28, 3) := by decide +kernel
theorem dX12_isStoppedByBreak_39 : decode cX12_isStoppedByBreak 39 = .ok (.iload_n 1, 1) := by decide +kernel
theorem dX12_isStoppedByBreak_40 : decode cX12_isStoppedByBreak 40 = .ok (.iaload, 1) := by decide +kernel
theorem dX12_isStoppedByBreak_41 : decode cX12_isStoppedByBreak 41 = .ok (.ifCond .ne 5, 3) := by decide +kernel
theorem dX12_isStoppedByBreak_44 : decode cX12_isStoppedByBreak 44 = .ok (.iconst 1, 1) := by decide +kernel
theorem dX12_isStoppedByBreak_45 : decode cX12_isStoppedByBreak 45 = .ok (.ireturn, 1) := by decide +kernel
theorem dX12_isStoppedByBreak_46 : decode cX12_isStoppedByBreak 46 = .ok (.aload_n 0, 1) := by decide +kernel
theorem dX12_isStoppedByBreak_47 : decode cX12_isStoppedByBreak 47 = .ok (.getfield 28, 3) := by decide +kernel
theorem dX12_isStoppedByBreak_50 : decode cX12_isStoppedByBreak 50 = .ok (.iload_n 1, 1) := by decide +kernel
theorem dX12_isStoppedByBreak_51 : decode cX12_isStoppedByBreak 51 = .ok (.dup2, 1) := by decide +kernel
theorem dX12_isStoppedByBreak_52 : decode cX12_isStoppedByBreak 52 = .ok (.iaload, 1) := by decide +kernel
theorem dX12_isStoppedByBreak_53 : decode cX12_isStoppedByBreak 53 = .ok (.iconst 1, 1) := by decide +kernel
theorem dX12_isStoppedByBreak_54 : decode cX12_isStoppedByBreak 54 = .ok (.isub, 1) := by decide +kernel
theorem dX12_isStoppedByBreak_55 : decode cX12_isStoppedByBreak 55 = .ok (.iastore, 1) := by decide +kernel
theorem dX12_isStoppedByBreak_56 : decode cX12_isStoppedByBreak 56 = .ok (.iconst 0, 1) := by decide +kernel
theorem dX12_isStoppedByBreak_57 : decode cX12_isStoppedByBreak 57 = .ok (.ireturn, 1) := by decide +kernel
theorem dX12_over_0 : decode cX12_over 0 = .ok (.aload_n 0, 1) := by decide +kernel
theorem dX12_over_1 : decode cX12_over 1 = .ok (.getfield 9, 3) := by decide +kernel
theorem dX12_over_4 : decode cX12_over 4 = .ok (.iconst 5, 1) := by decide +kernel
theorem dX12_over_5 : decode cX12_over 5 = .ok (.iaload, 1) := by decide +kernel
theorem dX12_over_6 : decode cX12_over 6 = .ok (.iconst 2, 1) := by decide +kernel
theorem dX12_over_7 : decode cX12_over 7 = .ok (.if_icmp .ne 7, 3) := by decide +kernel
theorem dX12_over_10 : decode cX12_over 10 = .ok (.iconst 4, 1) := by decide +kernel
theorem dX12_over_11 : decode cX12_over 11 = .ok (.goto 18, 3) := by decide +kernel
theorem dX12_over_14 : decode cX12_over 14 = .ok (.aload_n 0, 1) := by decide +kernel
theorem dX12_over_15 : decode cX12_over 15 = .ok (.getfield 9, 3) := by decide +kernel
theorem dX12_over_18 : decode cX12_over 18 = .ok (.iconst 5, 1) := by decide +kernel
theorem dX12_over_19 : decode cX12_over 19 = .ok (.iaload, 1) := by decide +kernel
theorem dX12_over_20 : decode cX12_over 20 = .ok (.iconst 3, 1) := by decide +kernel
theorem dX12_over_21 : decode cX12_over 21 = .ok (.if_icmp .ne 7, 3) := by decide +kernel
theorem dX12_over_24 : decode cX12_over 24 = .ok (.iconst 5, 1) := by decide +kernel
theorem dX12_over_25 : decode cX12_over 25 = .ok (.goto 4, 3) := by decide +kernel
theorem dX12_over_28 : decode cX12_over 28 = .ok (.iconst 0, 1) := by decide +kernel
theorem dX12_over_29 : decode cX12_over 29 = .ok (.ireturn, 1) := by decide +kernel
theorem dX12_go_0 : decode cX12_go 0 = .ok (.iconst 0, 1) := by decide +kernel
theorem dX12_go_1 : decode cX12_go 1 = .ok (.istore_n 3, 1) := by decide +kernel
theorem dX12_go_2 : decode cX12_go 2 = .ok (.aload_n 0, 1) := by decide +kernel
theorem dX12_go_3 : decode cX12_go 3 = .ok (.aload_n 0, 1) := by decide +kernel
theorem dX12_go_4 : decode cX12_go 4 = .ok (.invokevirtual 516, 3) := by decide +kernel
theorem dX12_go_7 : decode cX12_go 7 = .ok (.putfield 278, 3) := by decide +kernel
theorem dX12_go_10 : decode cX12_go 10 = .ok (.aload_n 0, 1) := by decide +kernel
theorem dX12_go_11 : decode cX12_go 11 = .ok (.getfield 278, 3) := by decide +kernel
theorem dX12_go_14 : decode cX12_go 14 = .ok (.ifCond .ne 91, 3) := by decide +kernel
theorem dX12_go_17 : decode cX12_go 17 = .ok (.iload_n 3, 1) := by decide +kernel
theorem dX12_go_18 : decode cX12_go 18 = .ok (.aload_n 0, 1) := by decide +kernel
theorem dX12_go_19 : decode cX12_go 19 = .ok (.invokevirtual 507, 3) := by decide +kernel
theorem dX12_go_22 : decode cX12_go 22 = .ok (.iadd, 1) := by decide +kernel
theorem dX12_go_23 : decode cX12_go 23 = .ok (.istore_n 3, 1) := by decide +kernel
theorem dX12_go_24 : decode cX12_go 24 = .ok (.aload_n 0, 1) := by decide +kernel
theorem dX12_go_25 : decode cX12_go 25 = .ok (.invokevirtual 516, 3) := by decide +kernel
theorem dX12_go_28 : decode cX12_go 28 = .ok (.ifCond .le 14, 3) := by decide +kernel
theorem dX12_go_31 : decode cX12_go 31 = .ok (.aload_n 0, 1) := by decide +kernel
theorem dX12_go_32 : decode cX12_go 32 = .ok (.aload_n 0, 1) := by decide +kernel
theorem dX12_go_33 : decode cX12_go 33 = .ok (.invokevirtual 516, 3) := by decide +kernel
theorem dX12_go_36 : decode cX12_go 36 = .ok (.putfield 278, 3) := by decide +kernel
theorem dX12_go_39 : decode cX12_go 39 = .ok (.goto (-29), 3) := by decide +kernel
theorem dX12_go_42 : decode cX12_go 42 = .ok (.aload_n 0, 1) := by decide +kernel
theorem dX12_go_43 : decode cX12_go 43 = .ok (.getfield 9, 3) := by decide +kernel
theorem dX12_go_46 : decode cX12_go 46 = .ok (.bipush 20, 2) := by decide +kernel
theorem dX12_go_48 : decode cX12_go 48 = .ok (.iaload, 1) := by decide +kernel
theorem dX12_go_49 : decode cX12_go 49 = .ok (.iload_n 2, 1) := by decide +kernel
theorem dX12_go_50 : decode cX12_go 50 = .ok (.if_icmp .gt 12, 3) := by decide +kernel
theorem dX12_go_53 : decode cX12_go 53 = .ok (.aload_n 0, 1) := by decide +kernel
theorem dX12_go_54 : decode cX12_go 54 = .ok (.bipush 6, 2) := by decide +kernel
theorem dX12_go_56 : decode cX12_go 56 = .ok (.putfield 278, 3) := by decide +kernel
theorem dX12_go_59 : decode cX12_go 59 = .ok (.goto (-49), 3) := by decide +kernel
theorem dX12_go_62 : decode cX12_go 62 = .ok (.aload_n 0, 1) := by decide +kernel
theorem dX12_go_63 : decode cX12_go 63 = .ok (.getfield 134, 3) := by decide +kernel
theorem dX12_go_66 : decode cX12_go 66 = .ok (.ifCond .eq 11, 3) := by decide +kernel
theorem dX12_go_69 : decode cX12_go 69 = .ok (.aload_n 0, 1) := by decide +kernel
theorem dX12_go_70 : decode cX12_go 70 = .ok (.iconst 3, 1) := by decide +kernel
theorem dX12_go_71 : decode cX12_go 71 = .ok (.putfield 278, 3) := by decide +kernel
theorem dX12_go_74 : decode cX12_go 74 = .ok (.goto (-64), 3) := by decide +kernel
theorem dX12_go_77 : decode cX12_go 77 = .ok (.iload_n 3, 1) := by decide +kernel
theorem dX12_go_78 : decode cX12_go 78 = .ok (.iload_n 1, 1) := by decide +kernel
theorem dX12_go_79 : decode cX12_go 79 = .ok (.if_icmp .lt 11, 3) := by decide +kernel
theorem dX12_go_82 : decode cX12_go 82 = .ok (.aload_n 0, 1) := by decide +kernel
theorem dX12_go_83 : decode cX12_go 83 = .ok (.iconst 1, 1) := by decide +kernel
theorem dX12_go_84 : decode cX12_go 84 = .ok (.putfield 278, 3) := by decide +kernel
theorem dX12_go_87 : decode cX12_go 87 = .ok (.goto (-77), 3) := by decide +kernel
theorem dX12_go_90 : decode cX12_go 90 = .ok (.aload_n 0, 1) := by decide +kernel
theorem dX12_go_91 : decode cX12_go 91 = .ok (.invokevirtual 519, 3) := by decide +kernel
theorem dX12_go_94 : decode cX12_go 94 = .ok (.ifCond .eq (-84), 3) := by decide +kernel
theorem dX12_go_97 : decode cX12_go 97 = .ok (.aload_n 0, 1) := by decide +kernel
theorem dX12_go_98 : decode cX12_go 98 = .ok (.iconst 2, 1) := by decide +kernel
theorem dX12_go_99 : decode cX12_go 99 = .ok (.putfield 278, 3) := by decide +kernel
theorem dX12_go_102 : decode cX12_go 102 = .ok (.goto (-92), 3) := by decide +kernel
theorem dX12_go_105 : decode cX12_go 105 = .ok (.iload_n 3, 1) := by decide +kernel
theorem dX12_go_106 : decode cX12_go 106 = .ok (.ireturn, 1) := by decide +kernel
theorem dX12_run_0 : decode cX12_run 0 = .ok (.aload_n 0, 1) := by decide +kernel
theorem dX12_run_1 : decode cX12_run 1 = .ok (.iload_n 1, 1) := by decide +kernel
theorem dX12_run_2 : decode cX12_run 2 = .ok (.iconst 1, 1) := by decide +kernel
theorem dX12_run_3 : decode cX12_run 3 = .ok (.sipush 5000, 3) := by decide +kernel
theorem dX12_run_6 : decode cX12_run 6 = .ok (.invokevirtual 504, 3) := by decide +kernel
theorem dX12_run_9 : decode cX12_run 9 = .ok (.ifCond .eq 7, 3) := by decide +kernel
theorem dX12_run_12 : decode cX12_run 12 = .ok (.iconst 0, 1) := by decide +kernel
theorem dX12_run_13 : decode cX12_run 13 = .ok (.goto 9, 3) := by decide +kernel
theorem dX12_run_16 : decode cX12_run 16 = .ok (.aload_n 0, 1) := by decide +kernel
theorem dX12_run_17 : decode cX12_run 17 = .ok (.iload_n 1, 1) := by decide +kernel
theorem dX12_run_18 : decode cX12_run 18 = .ok (.iconst (-1), 1) := by decide +kernel
theorem dX12_run_19 : decode cX12_run 19 = .ok (.invokevirtual 522, 3) := by decide +kernel
theorem dX12_run_22 : decode cX12_run 22 = .ok (.ireturn, 1) := by decide +kernel
theorem dX12_stepOver_0 : decode cX12_stepOver 0 = .ok (.aload_n 0, 1) := by decide +kernel
theorem dX12_stepOver_1 : decode cX12_stepOver 1 = .ok (.iconst 0, 1) := by decide +kernel
theorem dX12_stepOver_2 : decode cX12_stepOver 2 = .ok (.putfield 93, 3) := by decide +kernel
theorem dX12_stepOver_5 : decode cX12_stepOver 5 = .ok (.aload_n 0, 1) := by decide +kernel
theorem dX12_stepOver_6 : decode cX12_stepOver 6 = .ok (.aload_n 0, 1) := by decide +kernel
theorem dX12_stepOver_7 : decode cX12_stepOver 7 = .ok (.getfield 9, 3) := by decide +kernel
theorem dX12_stepOver_10 : decode cX12_stepOver 10 = .ok (.iconst 4, 1) := by decide +kernel
theorem dX12_stepOver_11 : decode cX12_stepOver 11 = .ok (.iaload, 1) := by decide +kernel
theorem dX12_stepOver_12 : decode cX12_stepOver 12 = .ok (.invokevirtual 125, 3) := by decide +kernel
theorem dX12_stepOver_15 : decode cX12_stepOver 15 = .ok (.istore_n 1, 1) := by decide +kernel
theorem dX12_stepOver_16 : decode cX12_stepOver 16 = .ok (.iload_n 1, 1) := by decide +kernel
theorem dX12_stepOver_17 : decode cX12_stepOver 17 = .ok (.invokestatic 253, 3) := by decide +kernel
theorem dX12_stepOver_20 : decode cX12_stepOver 20 = .ok (.ifCond .eq 23, 3) := by decide +kernel
theorem dX12_stepOver_23 : decode cX12_stepOver 23 = .ok (.iload_n 1, 1) := by decide +kernel
theorem dX12_stepOver_24 : decode cX12_stepOver 24 = .ok (.bipush 8, 2) := by decide +kernel
theorem dX12_stepOver_26 : decode cX12_stepOver 26 = .ok (.idiv, 1) := by decide +kernel
theorem dX12_stepOver_27 : decode cX12_stepOver 27 = .ok (.bipush 25, 2) := by decide +kernel
theorem dX12_stepOver_29 : decode cX12_stepOver 29 = .ok (.if_icmp .eq 10, 3) := by decide +kernel
theorem dX12_stepOver_32 : decode cX12_stepOver 32 = .ok (.iload_n 1, 1) := by decide +kernel
theorem dX12_stepOver_33 : decode cX12_stepOver 33 = .ok (.sipush 217, 3) := by decide +kernel
theorem dX12_stepOver_36 : decode cX12_stepOver 36 = .ok (.if_icmp .ne 7, 3) := by decide +kernel
theorem dX12_stepOver_39 : decode cX12_stepOver 39 = .ok (.iconst 1, 1) := by decide +kernel
theorem dX12_stepOver_40 : decode cX12_stepOver 40 = .ok (.goto 4, 3) := by decide +kernel
theorem dX12_stepOver_43 : decode cX12_stepOver 43 = .ok (.iconst 0, 1) := by decide +kernel
theorem dX12_stepOver_44 : decode cX12_stepOver 44 = .ok (.istore_n 2, 1) := by decide +kernel
theorem dX12_stepOver_45 : decode cX12_stepOver 45 = .ok (.aload_n 0, 1) := by decide +kernel
theorem dX12_stepOver_46 : decode cX12_stepOver 46 = .ok (.getfield 9, 3) := by decide +kernel
theorem dX12_stepOver_49 : decode cX12_stepOver 49 = .ok (.iconst 5, 1) := by decide +kernel
theorem dX12_stepOver_50 : decode cX12_stepOver 50 = .ok (.iaload, 1) := by decide +kernel
theorem dX12_stepOver_51 : decode cX12_stepOver 51 = .ok (.ifCond .ne 29, 3) := by decide +kernel
theorem dX12_stepOver_54 : decode cX12_stepOver 54 = .ok (.aload_n 0, 1) := by decide +kernel
theorem dX12_stepOver_55 : decode cX12_stepOver 55 = .ok (.invokevirtual 510, 3) := by decide +kernel
theorem dX12_stepOver_58 : decode cX12_stepOver 58 = .ok (.ifCond .ne 22, 3) := by decide +kernel
theorem dX12_stepOver_61 : decode cX12_stepOver 61 = .ok (.iload_n 2, 1) := by decide +kernel
theorem dX12_stepOver_62 : decode cX12_stepOver 62 = .ok (.ifCond .eq 18, 3) := by decide +kernel
theorem dX12_stepOver_65 : decode cX12_stepOver 65 = .ok (.aload_n 0, 1) := by decide +kernel
theorem dX12_stepOver_66 : decode cX12_stepOver 66 = .ok (.sipush 5000, 3) := by decide +kernel
theorem dX12_stepOver_69 : decode cX12_stepOver 69 = .ok (.aload_n 0, 1) := by decide +kernel
theorem dX12_stepOver_70 : decode cX12_stepOver 70 = .ok (.getfield 9, 3) := by decide +kernel
theorem dX12_stepOver_73 : decode cX12_stepOver 73 = .ok (.bipush 20, 2) := by decide +kernel
theorem dX12_stepOver_75 : decode cX12_stepOver 75 = .ok (.iaload, 1) := by decide +kernel
theorem dX12_stepOver_76 : decode cX12_stepOver 76 = .ok (.invokevirtual 522, 3) := by decide +kernel
theorem dX12_stepOver_79 : decode cX12_stepOver 79 = .ok (.ireturn, 1) := by decide +kernel
theorem dX12_stepOver_80 : decode cX12_stepOver 80 = .ok (.aload_n 0, 1) := by decide +kernel
theorem dX12_stepOver_81 : decode cX12_stepOver 81 = .ok (.invokevirtual 507, 3) := by decide +kernel
theorem dX12_stepOver_84 : decode cX12_stepOver 84 = .ok (.istore_n 3, 1) := by decide +kernel
theorem dX12_stepOver_85 : decode cX12_stepOver 85 = .ok (.aload_n 0, 1) := by decide +kernel
theorem dX12_stepOver_86 : decode cX12_stepOver 86 = .ok (.aload_n 0, 1) := by decide +kernel
theorem dX12_stepOver_87 : decode cX12_stepOver 87 = .ok (.invokevirtual 516, 3) := by decide +kernel
theorem dX12_stepOver_90 : decode cX12_stepOver 90 = .ok (.ifCond .le 10, 3) := by decide +kernel
theorem dX12_stepOver_93 : decode cX12_stepOver 93 = .ok (.aload_n 0, 1) := by decide +kernel
theorem dX12_stepOver_94 : decode cX12_stepOver 94 = .ok (.invokevirtual 516, 3) := by decide +kernel
theorem dX12_stepOver_97 : decode cX12_stepOver 97 = .ok (.goto 5, 3) := by decide +kernel
theorem dX12_stepOver_100 : decode cX12_stepOver 100 = .ok (.bipush 6, 2) := by decide +kernel
theorem dX12_stepOver_102 : decode cX12_stepOver 102 = .ok (.putfield 278, 3) := by decide +kernel
theorem dX12_stepOver_105 : decode cX12_stepOver 105 = .ok (.iload_n 3, 1) := by decide +kernel
theorem dX12_stepOver_106 : decode cX12_stepOver 106 = .ok (.ireturn, 1) := by decide +kernel
theorem dX12_stepOut_0 : decode cX12_stepOut 0 = .ok (.aload_n 0, 1) := by decide +kernel
theorem dX12_stepOut_1 : decode cX12_stepOut 1 = .ok (.iconst 0, 1) := by decide +kernel
theorem dX12_stepOut_2 : decode cX12_stepOut 2 = .ok (.putfield 93, 3) := by decide +kernel
theorem dX12_stepOut_5 : decode cX12_stepOut 5 = .ok (.aload_n 0, 1) := by decide +kernel
theorem dX12_stepOut_6 : decode cX12_stepOut 6 = .ok (.sipush 5000, 3) := by decide +kernel
theorem dX12_stepOut_9 : decode cX12_stepOut 9 = .ok (.aload_n 0, 1) := by decide +kernel
theorem dX12_stepOut_10 : decode cX12_stepOut 10 = .ok (.getfield 9, 3) := by decide +kernel
theorem dX12_stepOut_13 : decode cX12_stepOut 13 = .ok (.bipush 20, 2) := by decide +kernel
theorem dX12_stepOut_15 : decode cX12_stepOut 15 = .ok (.iaload, 1) := by decide +kernel
theorem dX12_stepOut_16 : decode cX12_stepOut 16 = .ok (.iconst 1, 1) := by decide +kernel
theorem dX12_stepOut_17 : decode cX12_stepOut 17 = .ok (.isub, 1) := by decide +kernel
theorem dX12_stepOut_18 : decode cX12_stepOut 18 = .ok (.invokevirtual 522, 3) := by decide +kernel
theorem dX12_stepOut_21 : decode cX12_stepOut 21 = .ok (.ireturn, 1) := by decide +kernel
theorem dX12_back_0 : decode cX12_back 0 = .ok (.aload_n 0, 1) := by decide +kernel
theorem dX12_back_1 : decode cX12_back 1 = .ok (.iload_n 1, 1) := by decide +kernel
theorem dX12_back_2 : decode cX12_back 2 = .ok (.iconst 1, 1) := by decide +kernel
theorem dX12_back_3 : decode cX12_back 3 = .ok (.sipush 200, 3) := by decide +kernel
theorem dX12_back_6 : decode cX12_back 6 = .ok (.invokevirtual 504, 3) := by decide +kernel
theorem dX12_back_9 : decode cX12_back 9 = .ok (.ifCond .eq 5, 3) := by decide +kernel
theorem dX12_back_12 : decode cX12_back 12 = .ok (.iconst 0, 1) := by decide +kernel
theorem dX12_back_13 : decode cX12_back 13 = .ok (.ireturn, 1) := by decide +kernel
theorem dX12_back_14 : decode cX12_back 14 = .ok (.iload_n 1, 1) := by decide +kernel
theorem dX12_back_15 : decode cX12_back 15 = .ok (.aload_n 0, 1) := by decide +kernel
theorem dX12_back_16 : decode cX12_back 16 = .ok (.getfield 272, 3) := by decide +kernel
theorem dX12_back_19 : decode cX12_back 19 = .ok (.invokestatic 525, 3) := by decide +kernel
theorem dX12_back_22 : decode cX12_back 22 = .ok (.istore_n 2, 1) := by decide +kernel
theorem dX12_back_23 : decode cX12_back 23 = .ok (.iconst 0, 1) := by decide +kernel
theorem dX12_back_24 : decode cX12_back 24 = .ok (.istore_n 3, 1) := by decide +kernel
theorem dX12_back_25 : decode cX12_back 25 = .ok (.iload_n 3, 1) := by decide +kernel
theorem dX12_back_26 : decode cX12_back 26 = .ok (.iload_n 2, 1) := by decide +kernel
theorem dX12_back_27 : decode cX12_back 27 = .ok (.if_icmp .ge 65, 3) := by decide +kernel
theorem dX12_back_30 : decode cX12_back 30 = .ok (.aload_n 0, 1) := by decide +kernel
theorem dX12_back_31 : decode cX12_back 31 = .ok (.dup, 1) := by decide +kernel
theorem dX12_back_32 : decode cX12_back 32 = .ok (.getfield 272, 3) := by decide +kernel
theorem dX12_back_35 : decode cX12_back 35 = .ok (.iconst 1, 1) := by decide +kernel
theorem dX12_back_36 : decode cX12_back 36 = .ok (.isub, 1) := by decide +kernel
theorem dX12_back_37 : decode cX12_back 37 = .ok (.putfield 272, 3) := by decide +kernel
theorem dX12_back_40 : decode cX12_back 40 = .ok (.aload_n 0, 1) := by decide +kernel
theorem dX12_back_41 : decode cX12_back 41 = .ok (.getfield 14, 3) := by decide +kernel
theorem dX12_back_44 : decode cX12_back 44 = .ok (.aload_n 0, 1) := by decide +kernel
theorem dX12_back_45 : decode cX12_back 45 = .ok (.getfield 272, 3) := by decide +kernel
theorem dX12_back_48 : decode cX12_back 48 = .ok (.aaload, 1) := by decide +kernel
theorem dX12_back_49 : decode cX12_back 49 = .ok (.astore 4, 2) := by decide +kernel
theorem dX12_back_51 : decode cX12_back 51 = .ok (.aload 4, 2) := by decide +kernel
theorem dX12_back_53 : decode cX12_back 53 = .ok (.arraylength, 1) := by decide +kernel
theorem dX12_back_54 : decode cX12_back 54 = .ok (.iconst 2, 1) := by decide +kernel
theorem dX12_back_55 : decode cX12_back 55 = .ok (.isub, 1) := by decide +kernel
theorem dX12_back_56 : decode cX12_back 56 = .ok (.istore 5, 2) := by decide +kernel
theorem dX12_back_58 : decode cX12_back 58 = .ok (.iload 5, 2) := by decide +kernel
theorem dX12_back_60 : decode cX12_back 60 = .ok (.ifCond .lt 26, 3) := by decide +kernel
theorem dX12_back_63 : decode cX12_back 63 = .ok (.aload_n 0, 1) := by decide +kernel
theorem dX12_back_64 : decode cX12_back 64 = .ok (.getfield 9, 3) := by decide +kernel
theorem dX12_back_67 : decode cX12_back 67 = .ok (.aload 4, 2) := by decide +kernel
theorem dX12_back_69 : decode cX12_back 69 = .ok (.iload 5, 2) := by decide +kernel
theorem dX12_back_71 : decode cX12_back 71 = .ok (.iaload, 1) := by decide +kernel
theorem dX12_back_72 : decode cX12_back 72 = .ok (.aload 4, 2) := by decide +kernel
theorem dX12_back_74 : decode cX12_back 74 = .ok (.iload 5, 2) := by decide +kernel
theorem dX12_back_76 : decode cX12_back 76 = .ok (.iconst 1, 1) := by decide +kernel
theorem dX12_back_77 : decode cX12_back 77 = .ok (.iadd, 1) := by decide +kernel
theorem dX12_back_78 : decode cX12_back 78 = .ok (.iaload, 1) := by decide +kernel
theorem dX12_back_79 : decode cX12_back 79 = .ok (.iastore, 1) := by decide +kernel
theorem dX12_back_80 : decode cX12_back 80 = .ok (.iinc 5 (-2), 3) := by decide +kernel
theorem dX12_back_83 : decode cX12_back 83 = .ok (.goto (-25), 3) := by decide +kernel
theorem dX12_back_86 : decode cX12_back 86 = .ok (.iinc 3 1, 3) := by decide +kernel
theorem dX12_back_89 : decode cX12_back 89 = .ok (.goto (-64), 3) := by decide +kernel
theorem dX12_back_92 : decode cX12_back 92 = .ok (.aload_n 0, 1) := by decide +kernel
theorem dX12_back_93 : decode cX12_back 93 = .ok (.iconst 0, 1) := by decide +kernel
theorem dX12_back_94 : decode cX12_back 94 = .ok (.putfield 278, 3) := by decide +kernel
theorem dX12_back_97 : decode cX12_back 97 = .ok (.iload_n 2, 1) := by decide +kernel
theorem dX12_back_98 : decode cX12_back 98 = .ok (.ireturn, 1) := by decide +kernel
theorem dX12_stopped_0 : decode cX12_stopped 0 = .ok (.aload_n 0, 1) := by decide +kernel
theorem dX12_stopped_1 : decode cX12_stopped 1 = .ok (.iconst 0, 1) := by decide +kernel
theorem dX12_stopped_2 : decode cX12_stopped 2 = .ok (.putfield 93, 3) := by decide +kernel
theorem dX12_stopped_5 : decode cX12_stopped 5 = .ok (.aload_n 0, 1) := by decide +kernel
theorem dX12_stopped_6 : decode cX12_stopped 6 = .ok (.getfield 278, 3) := by decide +kernel
theorem dX12_stopped_9 : decode cX12_stopped 9 = .ok (.ireturn, 1) := by decide +kernel
theorem dX12_history_0 : decode cX12_history 0 = .ok (.aload_n 0, 1) := by decide +kernel
theorem dX12_history_1 : decode cX12_history 1 = .ok (.iconst 0, 1) := by decide +kernel
theorem dX12_history_2 : decode cX12_history 2 = .ok (.putfield 93, 3) := by decide +kernel
theorem dX12_history_5 : decode cX12_history 5 = .ok (.aload_n 0, 1) := by decide +kernel
theorem dX12_history_6 : decode cX12_history 6 = .ok (.getfield 272, 3) := by decide +kernel
theorem dX12_history_9 : decode cX12_history 9 = .ok (.ireturn, 1) := by decide +kernel
theorem dX12_setBreak_0 : decode cX12_setBreak 0 = .ok (.aload_n 0, 1) := by decide +kernel
theorem dX12_setBreak_1 : decode cX12_setBreak 1 = .ok (.iload_n 1, 1) := by decide +kernel
theorem dX12_setBreak_2 : decode cX12_setBreak 2 = .ok (.iconst 0, 1) := by decide +kernel
theorem dX12_setBreak_3 : decode cX12_setBreak 3 = .ok (.sipush 4095, 3) := by decide +kernel
theorem dX12_setBreak_6 : decode cX12_setBreak 6 = .ok (.invokevirtual 504, 3) := by decide +kernel
theorem dX12_setBreak_9 : decode cX12_setBreak 9 = .ok (.ifCond .ne 27, 3) := by decide +kernel
theorem dX12_setBreak_12 : decode cX12_setBreak 12 = .ok (.aload_n 0, 1) := by decide +kernel
theorem dX12_setBreak_13 : decode cX12_setBreak 13 = .ok (.iload_n 2, 1) := by decide +kernel
theorem dX12_setBreak_14 : decode cX12_setBreak 14 = .ok (.iconst 0, 1) := by decide +kernel
theorem dX12_setBreak_15 : decode cX12_setBreak 15 = .ok (.sipush 1000, 3) := by decide +kernel
theorem dX12_setBreak_18 : decode cX12_setBreak 18 = .ok (.invokestatic 96, 3) := by decide +kernel
theorem dX12_setBreak_21 : decode cX12_setBreak 21 = .ok (.ifCond .ne 7, 3) := by decide +kernel
theorem dX12_setBreak_24 : decode cX12_setBreak 24 = .ok (.iconst 1, 1) := by decide +kernel
theorem dX12_setBreak_25 : decode cX12_setBreak 25 = .ok (.goto 4, 3) := by decide +kernel
theorem dX12_setBreak_28 : decode cX12_setBreak 28 = .ok (.iconst 0, 1) := by decide +kernel
theorem dX12_setBreak_29 : decode cX12_setBreak 29 = .ok (.iconst 1, 1) := by decide +kernel
theorem dX12_setBreak_30 : decode cX12_setBreak 30 = .ok (.invokevirtual 100, 3) := by decide +kernel
theorem dX12_setBreak_33 : decode cX12_setBreak 33 = .ok (.ifCond .eq 5, 3) := by decide +kernel
theorem dX12_setBreak_36 : decode cX12_setBreak 36 = .ok (.iconst 0, 1) := by decide +kernel
theorem dX12_setBreak_37 : decode cX12_setBreak 37 = .ok (.ireturn, 1) := by decide +kernel
theorem dX12_setBreak_38 : decode cX12_setBreak 38 = .ok (.aload_n 0, 1) := by decide +kernel
theorem dX12_setBreak_39 : decode cX12_setBreak 39 = .ok (.iload_n 1, 1) := by decide +kernel
theorem dX12_setBreak_40 : decode cX12_setBreak 40 = .ok (.invokevirtual 513, 3) := by decide +kernel
theorem dX12_setBreak_43 : decode cX12_setBreak 43 = .ok (.istore_n 3, 1) := by decide +kernel
theorem dX12_setBreak_44 : decode cX12_setBreak 44 = .ok (.aload_n 0, 1) := by decide +kernel
theorem dX12_setBreak_45 : decode cX12_setBreak 45 = .ok (.iload_n 3, 1) := by decide +kernel
theorem dX12_setBreak_46 : decode cX12_setBreak 46 = .ok (.ifCond .ge 16, 3) := by decide +kernel
theorem dX12_setBreak_49 : decode cX12_setBreak 49 = .ok (.aload_n 0, 1) := by decide +kernel
theorem dX12_setBreak_50 : decode cX12_setBreak 50 = .ok (.getfield 501, 3) := by decide +kernel
theorem dX12_setBreak_53 : decode cX12_setBreak 53 = .ok (.bipush 6, 2) := by decide +kernel
theorem dX12_setBreak_55 : decode cX12_setBreak 55 = .ok (.if_icmp .ne 7, 3) := by decide +kernel
theorem dX12_setBreak_58 : decode cX12_setBreak 58 = .ok (.iconst 1, 1) := by decide +kernel
theorem dX12_setBreak_59 : decode cX12_setBreak 59 = .ok (.goto 4, 3) := by decide +kernel
theorem dX12_setBreak_62 : decode cX12_setBreak 62 = .ok (.iconst 0, 1) := by decide +kernel
theorem dX12_setBreak_63 : decode cX12_setBreak 63 = .ok (.iconst 2, 1) := by decide +kernel
theorem dX12_setBreak_64 : decode cX12_setBreak 64 = .ok (.invokevirtual 100, 3) := by decide +kernel
theorem dX12_setBreak_67 : decode cX12_setBreak 67 = .ok (.ifCond .eq 5, 3) := by decide +kernel
theorem dX12_setBreak_70 : decode cX12_setBreak 70 = .ok (.iconst 0, 1) := by decide +kernel
theorem dX12_setBreak_71 : decode cX12_setBreak 71 = .ok (.ireturn, 1) := by decide +kernel
theorem dX12_setBreak_72 : decode cX12_setBreak 72 = .ok (.iload_n 3, 1) := by decide +kernel
theorem dX12_setBreak_73 : decode cX12_setBreak 73 = .ok (.ifCond .ge 18, 3) := by decide +kernel
theorem dX12_setBreak_76 : decode cX12_setBreak 76 = .ok (.aload_n 0, 1) := by decide +kernel
theorem dX12_setBreak_77 : decode cX12_setBreak 77 = .ok (.getfield 501, 3) := by decide +kernel
theorem dX12_setBreak_80 : decode cX12_setBreak 80 = .ok (.istore_n 3, 1) := by decide +kernel
theorem dX12_setBreak_81 : decode cX12_setBreak 81 = .ok (.aload_n 0, 1) := by decide +kernel
theorem dX12_setBreak_82 : decode cX12_setBreak 82 = .ok (.dup, 1) := by decide +kernel
theorem dX12_setBreak_83 : decode cX12_setBreak 83 = .ok (.getfield 501, 3) := by decide +kernel
theorem dX12_setBreak_86 : decode cX12_setBreak 86 = .ok (.iconst 1, 1) := by decide +kernel
theorem dX12_setBreak_87 : decode cX12_setBreak 87 = .ok (.iadd, 1) := by decide +kernel
theorem dX12_setBreak_88 : decode cX12_setBreak 88 = .ok (.putfield 501, 3) := by decide +kernel
theorem dX12_setBreak_91 : decode cX12_setBreak 91 = .ok (.aload_n 0, 1) := by decide +kernel
theorem dX12_setBreak_92 : decode cX12_setBreak 92 = .ok (.getfield 25, 3) := by decide +kernel
theorem dX12_setBreak_95 : decode cX12_setBreak 95 = .ok (.iload_n 3, 1) := by decide +kernel
theorem dX12_setBreak_96 : decode cX12_setBreak 96 = .ok (.iload_n 1, 1) := by decide +kernel
theorem dX12_setBreak_97 : decode cX12_setBreak 97 = .ok (.iastore, 1) := by decide +kernel
theorem dX12_setBreak_98 : decode cX12_setBreak 98 = .ok (.aload_n 0, 1) := by decide +kernel
theorem dX12_setBreak_99 : decode cX12_setBreak 99 = .ok (.getfield 28, 3) := by decide +kernel
theorem dX12_setBreak_102 : decode cX12_setBreak 102 = .ok (.iload_n 3, 1) := by decide +kernel
theorem dX12_setBreak_103 : decode cX12_setBreak 103 = .ok (.iload_n 2, 1) := by decide +kernel
theorem dX12_setBreak_104 : decode cX12_setBreak 104 = .ok (.iastore, 1) := by decide +kernel
theorem dX12_setBreak_105 : decode cX12_setBreak 105 = .ok (.aload_n 0, 1) := by decide +kernel
theorem dX12_setBreak_106 : decode cX12_setBreak 106 = .ok (.getfield 501, 3) := by decide +kernel
theorem dX12_setBreak_109 : decode cX12_setBreak 109 = .ok (.ireturn, 1) := by decide +kernel
theorem dX12_clearBreak_0 : decode cX12_clearBreak 0 = .ok (.aload_n 0, 1) := by decide +kernel
theorem dX12_clearBreak_1 : decode cX12_clearBreak 1 = .ok (.iconst 0, 1) := by decide +kernel
theorem dX12_clearBreak_2 : decode cX12_clearBreak 2 = .ok (.putfield 93, 3) := by decide +kernel
theorem dX12_clearBreak_5 : decode cX12_clearBreak 5 = .ok (.aload_n 0, 1) := by decide +kernel
theorem dX12_clearBreak_6 : decode cX12_clearBreak 6 = .ok (.iload_n 1, 1) := by decide +kernel
theorem dX12_clearBreak_7 : decode cX12_clearBreak 7 = .ok (.invokevirtual 513, 3) := by decide +kernel
theorem dX12_clearBreak_10 : decode cX12_clearBreak 10 = .ok (.istore_n 2, 1) := by decide +kernel
theorem dX12_clearBreak_11 : decode cX12_clearBreak 11 = .ok (.iload_n 2, 1) := by decide +kernel
theorem dX12_clearBreak_12 : decode cX12_clearBreak 12 = .ok (.ifCond .ge 5, 3) := by decide +kernel
theorem dX12_clearBreak_15 : decode cX12_clearBreak 15 = .ok (.iconst (-1), 1) := by decide +kernel
theorem dX12_clearBreak_16 : decode cX12_clearBreak 16 = .ok (.ireturn, 1) := by decide +kernel
theorem dX12_clearBreak_17 : decode cX12_clearBreak 17 = .ok (.aload_n 0, 1) := by decide +kernel
theorem dX12_clearBreak_18 : decode cX12_clearBreak 18 = .ok (.getfield 28, 3) := by decide +kernel
theorem dX12_clearBreak_21 : decode cX12_clearBreak 21 = .ok (.iload_n 2, 1) := by decide +kernel
theorem dX12_clearBreak_22 : decode cX12_clearBreak 22 = .ok (.iaload, 1) := by decide +kernel
theorem dX12_clearBreak_23 : decode cX12_clearBreak 23 = .ok (.istore_n 3, 1) := by decide +kernel
theorem dX12_clearBreak_24 : decode cX12_clearBreak 24 = .ok (.aload_n 0, 1) := by decide +kernel
theorem dX12_clearBreak_25 : decode cX12_clearBreak 25 = .ok (.dup, 1) := by decide +kernel
theorem dX12_clearBreak_26 : decode cX12_clearBreak 26 = .ok (.getfield 501, 3) := by decide +kernel
theorem dX12_clearBreak_29 : decode cX12_clearBreak 29 = .ok (.iconst 1, 1) := by decide +kernel
theorem dX12_clearBreak_30 : decode cX12_clearBreak 30 = .ok (.isub, 1) := by decide +kernel
theorem dX12_clearBreak_31 : decode cX12_clearBreak 31 = .ok (.putfield 501, 3) := by decide +kernel
theorem dX12_clearBreak_34 : decode cX12_clearBreak 34 = .ok (.aload_n 0, 1) := by decide +kernel
theorem dX12_clearBreak_35 : decode cX12_clearBreak 35 = .ok (.getfield 25, 3) := by decide +kernel
theorem dX12_clearBreak_38 : decode cX12_clearBreak 38 = .ok (.iload_n 2, 1) := by decide +kernel
theorem dX12_clearBreak_39 : decode cX12_clearBreak 39 = .ok (.aload_n 0, 1) := by decide +kernel
theorem dX12_clearBreak_40 : decode cX12_clearBreak 40 = .ok (.getfield 25, 3) := by decide +kernel
theorem dX12_clearBreak_43 : decode cX12_clearBreak 43 = .ok (.aload_n 0, 1) := by decide +kernel
theorem dX12_clearBreak_44 : decode cX12_clearBreak 44 = .ok (.getfield 501, 3) := by decide +kernel
theorem dX12_clearBreak_47 : decode cX12_clearBreak 47 = .ok (.iaload, 1) := by decide +kernel
theorem dX12_clearBreak_48 : decode cX12_clearBreak 48 = .ok (.iastore, 1) := by decide +kernel
theorem dX12_clearBreak_49 : decode cX12_clearBreak 49 = .ok (.aload_n 0, 1) := by decide +kernel
theorem dX12_clearBreak_50 : decode cX12_clearBreak 50 = .ok (.getfield 28, 3) := by decide +kernel
theorem dX12_clearBreak_53 : decode cX12_clearBreak 53 = .ok (.iload_n 2, 1) := by decide +kernel
theorem dX12_clearBreak_54 : decode cX12_clearBreak 54 = .ok (.aload_n 0, 1) := by decide +kernel
theorem dX12_clearBreak_55 : decode cX12_clearBreak 55 = .ok (.getfield 28, 3) := by decide +kernel
theorem dX12_clearBreak_58 : decode cX12_clearBreak 58 = .ok (.aload_n 0, 1) := by decide +kernel
theorem dX12_clearBreak_59 : decode cX12_clearBreak 59 = .ok (.getfield 501, 3) := by decide +kernel
theorem dX12_clearBreak_62 : decode cX12_clearBreak 62 = .ok (.iaload, 1) := by decide +kernel
theorem dX12_clearBreak_63 : decode cX12_clearBreak 63 = .ok (.iastore, 1) := by decide +kernel
theorem dX12_clearBreak_64 : decode cX12_clearBreak 64 = .ok (.iload_n 3, 1) := by decide +kernel
theorem dX12_clearBreak_65 : decode cX12_clearBreak 65 = .ok (.ireturn, 1) := by decide +kernel
theorem dX12_setWatch_0 : decode cX12_setWatch 0 = .ok (.aload_n 0, 1) := by decide +kernel
theorem dX12_setWatch_1 : decode cX12_setWatch 1 = .ok (.iload_n 1, 1) := by decide +kernel
theorem dX12_setWatch_2 : decode cX12_setWatch 2 = .ok (.iconst 0, 1) := by decide +kernel
theorem dX12_setWatch_3 : decode cX12_setWatch 3 = .ok (.sipush 4095, 3) := by decide +kernel
theorem dX12_setWatch_6 : decode cX12_setWatch 6 = .ok (.invokevirtual 504, 3) := by decide +kernel
theorem dX12_setWatch_9 : decode cX12_setWatch 9 = .ok (.ifCond .ne 48, 3) := by decide +kernel
theorem dX12_setWatch_12 : decode cX12_setWatch 12 = .ok (.aload_n 0, 1) := by decide +kernel
theorem dX12_setWatch_13 : decode cX12_setWatch 13 = .ok (.iload_n 2, 1) := by decide +kernel
theorem dX12_setWatch_14 : decode cX12_setWatch 14 = .ok (.iload_n 1, 1) := by decide +kernel
theorem dX12_setWatch_15 : decode cX12_setWatch 15 = .ok (.sipush 4095, 3) := by decide +kernel
theorem dX12_setWatch_18 : decode cX12_setWatch 18 = .ok (.invokestatic 96, 3) := by decide +kernel
theorem dX12_setWatch_21 : decode cX12_setWatch 21 = .ok (.ifCond .ne 7, 3) := by decide +kernel
theorem dX12_setWatch_24 : decode cX12_setWatch 24 = .ok (.iconst 1, 1) := by decide +kernel
theorem dX12_setWatch_25 : decode cX12_setWatch 25 = .ok (.goto 4, 3) := by decide +kernel
theorem dX12_setWatch_28 : decode cX12_setWatch 28 = .ok (.iconst 0, 1) := by decide +kernel
theorem dX12_setWatch_29 : decode cX12_setWatch 29 = .ok (.iconst 1, 1) := by decide +kernel
theorem dX12_setWatch_30 : decode cX12_setWatch 30 = .ok (.invokevirtual 100, 3) := by decide +kernel
theorem dX12_setWatch_33 : decode cX12_setWatch 33 = .ok (.ifCond .ne 24, 3) := by decide +kernel
theorem dX12_setWatch_36 : decode cX12_setWatch 36 = .ok (.aload_n 0, 1) := by decide +kernel
theorem dX12_setWatch_37 : decode cX12_setWatch 37 = .ok (.aload_n 0, 1) := by decide +kernel
theorem dX12_setWatch_38 : decode cX12_setWatch 38 = .ok (.getfield 128, 3) := by decide +kernel
theorem dX12_setWatch_41 : decode cX12_setWatch 41 = .ok (.iconst 4, 1) := by decide +kernel
theorem dX12_setWatch_42 : decode cX12_setWatch 42 = .ok (.if_icmp .ne 7, 3) := by decide +kernel
theorem dX12_setWatch_45 : decode cX12_setWatch 45 = .ok (.iconst 1, 1) := by decide +kernel
theorem dX12_setWatch_46 : decode cX12_setWatch 46 = .ok (.goto 4, 3) := by decide +kernel
theorem dX12_setWatch_49 : decode cX12_setWatch 49 = .ok (.iconst 0, 1) := by decide +kernel
theorem dX12_setWatch_50 : decode cX12_setWatch 50 = .ok (.iconst 2, 1) := by decide +kernel
theorem dX12_setWatch_51 : decode cX12_setWatch 51 = .ok (.invokevirtual 100, 3) := by decide +kernel
theorem dX12_setWatch_54 : decode cX12_setWatch 54 = .ok (.ifCond .eq 5, 3) := by decide +kernel
theorem dX12_setWatch_57 : decode cX12_setWatch 57 = .ok (.iconst 0, 1) := by decide +kernel
theorem dX12_setWatch_58 : decode cX12_setWatch 58 = .ok (.ireturn, 1) := by decide +kernel
theorem dX12_setWatch_59 : decode cX12_setWatch 59 = .ok (.aload_n 0, 1) := by decide +kernel
theorem dX12_setWatch_60 : decode cX12_setWatch 60 = .ok (.getfield 31, 3) := by decide +kernel
theorem dX12_setWatch_63 : decode cX12_setWatch 63 = .ok (.aload_n 0, 1) := by decide +kernel
theorem dX12_setWatch_64 : decode cX12_setWatch 64 = .ok (.getfield 128, 3) := by decide +kernel
theorem dX12_setWatch_67 : decode cX12_setWatch 67 = .ok (.iload_n 1, 1) := by decide +kernel
theorem dX12_setWatch_68 : decode cX12_setWatch 68 = .ok (.iastore, 1) := by decide +kernel
theorem dX12_setWatch_69 : decode cX12_setWatch 69 = .ok (.aload_n 0, 1) := by decide +kernel
theorem dX12_setWatch_70 : decode cX12_setWatch 70 = .ok (.getfield 34, 3) := by decide +kernel
theorem dX12_setWatch_73 : decode cX12_setWatch 73 = .ok (.aload_n 0, 1) := by decide +kernel
theorem dX12_setWatch_74 : decode cX12_setWatch 74 = .ok (.getfield 128, 3) := by decide +kernel
theorem dX12_setWatch_77 : decode cX12_setWatch 77 = .ok (.iload_n 2, 1) := by decide +kernel
theorem dX12_setWatch_78 : decode cX12_setWatch 78 = .ok (.iastore, 1) := by decide +kernel
theorem dX12_setWatch_79 : decode cX12_setWatch 79 = .ok (.aload_n 0, 1) := by decide +kernel
theorem dX12_setWatch_80 : decode cX12_setWatch 80 = .ok (.getfield 37, 3) := by decide +kernel
theorem dX12_setWatch_83 : decode cX12_setWatch 83 = .ok (.aload_n 0, 1) := by decide +kernel
theorem dX12_setWatch_84 : decode cX12_setWatch 84 = .ok (.getfield 128, 3) := by decide +kernel
theorem dX12_setWatch_87 : decode cX12_setWatch 87 = .ok (.iload_n 3, 1) := by decide +kernel
theorem dX12_setWatch_88 : decode cX12_setWatch 88 = .ok (.bastore, 1) := by decide +kernel
theorem dX12_setWatch_89 : decode cX12_setWatch 89 = .ok (.aload_n 0, 1) := by decide +kernel
theorem dX12_setWatch_90 : decode cX12_setWatch 90 = .ok (.getfield 41, 3) := by decide +kernel
theorem dX12_setWatch_93 : decode cX12_setWatch 93 = .ok (.aload_n 0, 1) := by decide +kernel
theorem dX12_setWatch_94 : decode cX12_setWatch 94 = .ok (.getfield 128, 3) := by decide +kernel
theorem dX12_setWatch_97 : decode cX12_setWatch 97 = .ok (.iload 4, 2) := by decide +kernel
theorem dX12_setWatch_99 : decode cX12_setWatch 99 = .ok (.bastore, 1) := by decide +kernel
theorem dX12_setWatch_100 : decode cX12_setWatch 100 = .ok (.aload_n 0, 1) := by decide +kernel
theorem dX12_setWatch_101 : decode cX12_setWatch 101 = .ok (.dup, 1) := by decide +kernel
theorem dX12_setWatch_102 : decode cX12_setWatch 102 = .ok (.getfield 128, 3) := by decide +kernel
theorem dX12_setWatch_105 : decode cX12_setWatch 105 = .ok (.iconst 1, 1) := by decide +kernel
theorem dX12_setWatch_106 : decode cX12_setWatch 106 = .ok (.iadd, 1) := by decide +kernel
theorem dX12_setWatch_107 : decode cX12_setWatch 107 = .ok (.putfield 128, 3) := by decide +kernel
theorem dX12_setWatch_110 : decode cX12_setWatch 110 = .ok (.aload_n 0, 1) := by decide +kernel
theorem dX12_setWatch_111 : decode cX12_setWatch 111 = .ok (.getfield 128, 3) := by decide +kernel
theorem dX12_setWatch_114 : decode cX12_setWatch 114 = .ok (.ireturn, 1) := by decide +kernel
theorem dX12_clearWatches_0 : decode cX12_clearWatches 0 = .ok (.aload_n 0, 1) := by decide +kernel
theorem dX12_clearWatches_1 : decode cX12_clearWatches 1 = .ok (.iconst 0, 1) := by decide +kernel
theorem dX12_clearWatches_2 : decode cX12_clearWatches 2 = .ok (.putfield 93, 3) := by decide +kernel
theorem dX12_clearWatches_5 : decode cX12_clearWatches 5 = .ok (.aload_n 0, 1) := by decide +kernel
theorem dX12_clearWatches_6 : decode cX12_clearWatches 6 = .ok (.getfield 128, 3) := by decide +kernel
theorem dX12_clearWatches_9 : decode cX12_clearWatches 9 = .ok (.istore_n 1, 1) := by decide +kernel
theorem dX12_clearWatches_10 : decode cX12_clearWatches 10 = .ok (.aload_n 0, 1) := by decide +kernel
theorem dX12_clearWatches_11 : decode cX12_clearWatches 11 = .ok (.iconst 0, 1) := by decide +kernel
theorem dX12_clearWatches_12 : decode cX12_clearWatches 12 = .ok (.putfield 128, 3) := by decide +kernel
theorem dX12_clearWatches_15 : decode cX12_clearWatches 15 = .ok (.iload_n 1, 1) := by decide +kernel
theorem dX12_clearWatches_16 : decode cX12_clearWatches 16 = .ok (.ireturn, 1) := by decide +kernel
theorem dX12_told_0 : decode cX12_told 0 = .ok (.aload_n 0, 1) := by decide +kernel
theorem dX12_told_1 : decode cX12_told 1 = .ok (.iconst 0, 1) := by decide +kernel
theorem dX12_told_2 : decode cX12_told 2 = .ok (.putfield 93, 3) := by decide +kernel
theorem dX12_told_5 : decode cX12_told 5 = .ok (.aload_n 0, 1) := by decide +kernel
theorem dX12_told_6 : decode cX12_told 6 = .ok (.getfield 9, 3) := by decide +kernel
theorem dX12_told_9 : decode cX12_told 9 = .ok (.iload_n 1, 1) := by decide +kernel
theorem dX12_told_10 : decode cX12_told 10 = .ok (.iaload, 1) := by decide +kernel
theorem dX12_told_11 : decode cX12_told 11 = .ok (.ireturn, 1) := by decide +kernel
theorem dX12_a_0 : decode cX12_a 0 = .ok (.aload_n 0, 1) := by decide +kernel
theorem dX12_a_1 : decode cX12_a 1 = .ok (.iconst 0, 1) := by decide +kernel
theorem dX12_a_2 : decode cX12_a 2 = .ok (.invokevirtual 528, 3) := by decide +kernel
theorem dX12_a_5 : decode cX12_a 5 = .ok (.ireturn, 1) := by decide +kernel
theorem dX12_x_0 : decode cX12_x 0 = .ok (.aload_n 0, 1) := by decide +kernel
theorem dX12_x_1 : decode cX12_x 1 = .ok (.iconst 1, 1) := by decide +kernel
theorem dX12_x_2 : decode cX12_x 2 = .ok (.invokevirtual 528, 3) := by decide +kernel
theorem dX12_x_5 : decode cX12_x 5 = .ok (.ireturn, 1) := by decide +kernel
theorem dX12_s_0 : decode cX12_s 0 = .ok (.aload_n 0, 1) := by decide +kernel
theorem dX12_s_1 : decode cX12_s 1 = .ok (.iconst 2, 1) := by decide +kernel
theorem dX12_s_2 : decode cX12_s 2 = .ok (.invokevirtual 528, 3) := by decide +kernel
theorem dX12_s_5 : decode cX12_s 5 = .ok (.ireturn, 1) := by decide +kernel
theorem dX12_flags_0 : decode cX12_flags 0 = .ok (.aload_n 0, 1) := by decide +kernel
theorem dX12_flags_1 : decode cX12_flags 1 = .ok (.iconst 3, 1) := by decide +kernel
theorem dX12_flags_2 : decode cX12_flags 2 = .ok (.invokevirtual 528, 3) := by decide +kernel
theorem dX12_flags_5 : decode cX12_flags 5 = .ok (.ireturn, 1) := by decide +kernel
theorem dX12_pc_0 : decode cX12_pc 0 = .ok (.aload_n 0, 1) := by decide +kernel
theorem dX12_pc_1 : decode cX12_pc 1 = .ok (.iconst 4, 1) := by decide +kernel
theorem dX12_pc_2 : decode cX12_pc 2 = .ok (.invokevirtual 528, 3) := by decide +kernel
theorem dX12_pc_5 : decode cX12_pc 5 = .ok (.ireturn, 1) := by decide +kernel
theorem dX12_state_0 : decode cX12_state 0 = .ok (.aload_n 0, 1) := by decide +kernel
theorem dX12_state_1 : decode cX12_state 1 = .ok (.iconst 5, 1) := by decide +kernel
theorem dX12_state_2 : decode cX12_state 2 = .ok (.invokevirtual 528, 3) := by decide +kernel
theorem dX12_state_5 : decode cX12_state 5 = .ok (.ireturn, 1) := by decide +kernel
theorem dX12_cycles_0 : decode cX12_cycles 0 = .ok (.aload_n 0, 1) := by decide +kernel
theorem dX12_cycles_1 : decode cX12_cycles 1 = .ok (.bipush 7, 2) := by decide +kernel
theorem dX12_cycles_3 : decode cX12_cycles 3 = .ok (.invokevirtual 528, 3) := by decide +kernel
theorem dX12_cycles_6 : decode cX12_cycles 6 = .ok (.ireturn, 1) := by decide +kernel
theorem dX12_instructions_0 : decode cX12_instructions 0 = .ok (.aload_n 0, 1) := by decide +kernel
theorem dX12_instructions_1 : decode cX12_instructions 1 = .ok (.bipush 8, 2) := by decide +kernel
theorem dX12_instructions_3 : decode cX12_instructions 3 = .ok (.invokevirtual 528, 3) := by decide +kernel
theorem dX12_instructions_6 : decode cX12_instructions 6 = .ok (.ireturn, 1) := by decide +kernel
theorem dX12_byteAt_0 : decode cX12_byteAt 0 = .ok (.aload_n 0, 1) := by decide +kernel
theorem dX12_byteAt_1 : decode cX12_byteAt 1 = .ok (.iload_n 1, 1) := by decide +kernel
theorem dX12_byteAt_2 : decode cX12_byteAt 2 = .ok (.iconst 0, 1) := by decide +kernel
theorem dX12_byteAt_3 : decode cX12_byteAt 3 = .ok (.sipush 4095, 3) := by decide +kernel
theorem dX12_byteAt_6 : decode cX12_byteAt 6 = .ok (.invokevirtual 504, 3) := by decide +kernel
theorem dX12_byteAt_9 : decode cX12_byteAt 9 = .ok (.ifCond .eq 7, 3) := by decide +kernel
theorem dX12_byteAt_12 : decode cX12_byteAt 12 = .ok (.iconst 0, 1) := by decide +kernel
theorem dX12_byteAt_13 : decode cX12_byteAt 13 = .ok (.goto 8, 3) := by decide +kernel
theorem dX12_byteAt_16 : decode cX12_byteAt 16 = .ok (.aload_n 0, 1) := by decide +kernel
theorem dX12_byteAt_17 : decode cX12_byteAt 17 = .ok (.iload_n 1, 1) := by decide +kernel
theorem dX12_byteAt_18 : decode cX12_byteAt 18 = .ok (.invokevirtual 125, 3) := by decide +kernel
theorem dX12_byteAt_21 : decode cX12_byteAt 21 = .ok (.ireturn, 1) := by decide +kernel
theorem dX12_byteIn_0 : decode cX12_byteIn 0 = .ok (.aload_n 0, 1) := by decide +kernel
theorem dX12_byteIn_1 : decode cX12_byteIn 1 = .ok (.iload_n 1, 1) := by decide +kernel
theorem dX12_byteIn_2 : decode cX12_byteIn 2 = .ok (.iconst 0, 1) := by decide +kernel
theorem dX12_byteIn_3 : decode cX12_byteIn 3 = .ok (.bipush 7, 2) := by decide +kernel
theorem dX12_byteIn_5 : decode cX12_byteIn 5 = .ok (.invokevirtual 504, 3) := by decide +kernel
theorem dX12_byteIn_8 : decode cX12_byteIn 8 = .ok (.ifCond .ne 27, 3) := by decide +kernel
theorem dX12_byteIn_11 : decode cX12_byteIn 11 = .ok (.aload_n 0, 1) := by decide +kernel
theorem dX12_byteIn_12 : decode cX12_byteIn 12 = .ok (.iload_n 2, 1) := by decide +kernel
theorem dX12_byteIn_13 : decode cX12_byteIn 13 = .ok (.iconst 0, 1) := by decide +kernel
theorem dX12_byteIn_14 : decode cX12_byteIn 14 = .ok (.sipush 1023, 3) := by decide +kernel
theorem dX12_byteIn_17 : decode cX12_byteIn 17 = .ok (.invokestatic 96, 3) := by decide +kernel
theorem dX12_byteIn_20 : decode cX12_byteIn 20 = .ok (.ifCond .ne 7, 3) := by decide +kernel
theorem dX12_byteIn_23 : decode cX12_byteIn 23 = .ok (.iconst 1, 1) := by decide +kernel
theorem dX12_byteIn_24 : decode cX12_byteIn 24 = .ok (.goto 4, 3) := by decide +kernel
theorem dX12_byteIn_27 : decode cX12_byteIn 27 = .ok (.iconst 0, 1) := by decide +kernel
theorem dX12_byteIn_28 : decode cX12_byteIn 28 = .ok (.iconst 2, 1) := by decide +kernel
theorem dX12_byteIn_29 : decode cX12_byteIn 29 = .ok (.invokevirtual 100, 3) := by decide +kernel
theorem dX12_byteIn_32 : decode cX12_byteIn 32 = .ok (.ifCond .eq 7, 3) := by decide +kernel
theorem dX12_byteIn_35 : decode cX12_byteIn 35 = .ok (.iconst 0, 1) := by decide +kernel
theorem dX12_byteIn_36 : decode cX12_byteIn 36 = .ok (.goto 19, 3) := by decide +kernel
theorem dX12_byteIn_39 : decode cX12_byteIn 39 = .ok (.aload_n 0, 1) := by decide +kernel
theorem dX12_byteIn_40 : decode cX12_byteIn 40 = .ok (.getfield 9, 3) := by decide +kernel
theorem dX12_byteIn_43 : decode cX12_byteIn 43 = .ok (.sipush 2893, 3) := by decide +kernel
theorem dX12_byteIn_46 : decode cX12_byteIn 46 = .ok (.sipush 1024, 3) := by decide +kernel
theorem dX12_byteIn_49 : decode cX12_byteIn 49 = .ok (.iload_n 1, 1) := by decide +kernel
theorem dX12_byteIn_50 : decode cX12_byteIn 50 = .ok (.imul, 1) := by decide +kernel
theorem dX12_byteIn_51 : decode cX12_byteIn 51 = .ok (.iadd, 1) := by decide +kernel
theorem dX12_byteIn_52 : decode cX12_byteIn 52 = .ok (.iload_n 2, 1) := by decide +kernel
theorem dX12_byteIn_53 : decode cX12_byteIn 53 = .ok (.iadd, 1) := by decide +kernel
theorem dX12_byteIn_54 : decode cX12_byteIn 54 = .ok (.iaload, 1) := by decide +kernel
theorem dX12_byteIn_55 : decode cX12_byteIn 55 = .ok (.ireturn, 1) := by decide +kernel
theorem dX12_bank_0 : decode cX12_bank 0 = .ok (.aload_n 0, 1) := by decide +kernel
theorem dX12_bank_1 : decode cX12_bank 1 = .ok (.bipush 9, 2) := by decide +kernel
theorem dX12_bank_3 : decode cX12_bank 3 = .ok (.invokevirtual 528, 3) := by decide +kernel
theorem dX12_bank_6 : decode cX12_bank 6 = .ok (.ireturn, 1) := by decide +kernel
theorem dX12_mask_0 : decode cX12_mask 0 = .ok (.aload_n 0, 1) := by decide +kernel
theorem dX12_mask_1 : decode cX12_mask 1 = .ok (.bipush 10, 2) := by decide +kernel
theorem dX12_mask_3 : decode cX12_mask 3 = .ok (.invokevirtual 528, 3) := by decide +kernel
theorem dX12_mask_6 : decode cX12_mask 6 = .ok (.ireturn, 1) := by decide +kernel
theorem dX12_pending_0 : decode cX12_pending 0 = .ok (.aload_n 0, 1) := by decide +kernel
theorem dX12_pending_1 : decode cX12_pending 1 = .ok (.bipush 11, 2) := by decide +kernel
theorem dX12_pending_3 : decode cX12_pending 3 = .ok (.invokevirtual 528, 3) := by decide +kernel
theorem dX12_pending_6 : decode cX12_pending 6 = .ok (.ireturn, 1) := by decide +kernel
theorem dX12_count_0 : decode cX12_count 0 = .ok (.aload_n 0, 1) := by decide +kernel
theorem dX12_count_1 : decode cX12_count 1 = .ok (.bipush 12, 2) := by decide +kernel
theorem dX12_count_3 : decode cX12_count 3 = .ok (.invokevirtual 528, 3) := by decide +kernel
theorem dX12_count_6 : decode cX12_count 6 = .ok (.ireturn, 1) := by decide +kernel
theorem dX12_inputs_0 : decode cX12_inputs 0 = .ok (.aload_n 0, 1) := by decide +kernel
theorem dX12_inputs_1 : decode cX12_inputs 1 = .ok (.bipush 18, 2) := by decide +kernel
theorem dX12_inputs_3 : decode cX12_inputs 3 = .ok (.invokevirtual 528, 3) := by decide +kernel
theorem dX12_inputs_6 : decode cX12_inputs 6 = .ok (.ireturn, 1) := by decide +kernel
theorem dX12_outputs_0 : decode cX12_outputs 0 = .ok (.aload_n 0, 1) := by decide +kernel
theorem dX12_outputs_1 : decode cX12_outputs 1 = .ok (.bipush 19, 2) := by decide +kernel
theorem dX12_outputs_3 : decode cX12_outputs 3 = .ok (.invokevirtual 528, 3) := by decide +kernel
theorem dX12_outputs_6 : decode cX12_outputs 6 = .ok (.ireturn, 1) := by decide +kernel
theorem dX12_outputAt_0 : decode cX12_outputAt 0 = .ok (.aload_n 0, 1) := by decide +kernel
theorem dX12_outputAt_1 : decode cX12_outputAt 1 = .ok (.iload_n 1, 1) := by decide +kernel
theorem dX12_outputAt_2 : decode cX12_outputAt 2 = .ok (.iconst 0, 1) := by decide +kernel
theorem dX12_outputAt_3 : decode cX12_outputAt 3 = .ok (.bipush 40, 2) := by decide +kernel
theorem dX12_outputAt_5 : decode cX12_outputAt 5 = .ok (.aload_n 0, 1) := by decide +kernel
theorem dX12_outputAt_6 : decode cX12_outputAt 6 = .ok (.getfield 9, 3) := by decide +kernel
theorem dX12_outputAt_9 : decode cX12_outputAt 9 = .ok (.bipush 19, 2) := by decide +kernel
theorem dX12_outputAt_11 : decode cX12_outputAt 11 = .ok (.iaload, 1) := by decide +kernel
theorem dX12_outputAt_12 : decode cX12_outputAt 12 = .ok (.invokestatic 525, 3) := by decide +kernel
theorem dX12_outputAt_15 : decode cX12_outputAt 15 = .ok (.iconst 1, 1) := by decide +kernel
theorem dX12_outputAt_16 : decode cX12_outputAt 16 = .ok (.isub, 1) := by decide +kernel
theorem dX12_outputAt_17 : decode cX12_outputAt 17 = .ok (.invokevirtual 504, 3) := by decide +kernel
theorem dX12_outputAt_20 : decode cX12_outputAt 20 = .ok (.ifCond .eq 7, 3) := by decide +kernel
theorem dX12_outputAt_23 : decode cX12_outputAt 23 = .ok (.iconst 0, 1) := by decide +kernel
theorem dX12_outputAt_24 : decode cX12_outputAt 24 = .ok (.goto 8, 3) := by decide +kernel
theorem dX12_outputAt_27 : decode cX12_outputAt 27 = .ok (.aload_n 0, 1) := by decide +kernel
theorem dX12_outputAt_28 : decode cX12_outputAt 28 = .ok (.iload_n 1, 1) := by decide +kernel
theorem dX12_outputAt_29 : decode cX12_outputAt 29 = .ok (.invokevirtual 531, 3) := by decide +kernel
theorem dX12_outputAt_32 : decode cX12_outputAt 32 = .ok (.ireturn, 1) := by decide +kernel
theorem dX12_calls_0 : decode cX12_calls 0 = .ok (.aload_n 0, 1) := by decide +kernel
theorem dX12_calls_1 : decode cX12_calls 1 = .ok (.bipush 20, 2) := by decide +kernel
theorem dX12_calls_3 : decode cX12_calls 3 = .ok (.invokevirtual 528, 3) := by decide +kernel
theorem dX12_calls_6 : decode cX12_calls 6 = .ok (.ireturn, 1) := by decide +kernel
theorem dX12_callAt_0 : decode cX12_callAt 0 = .ok (.aload_n 0, 1) := by decide +kernel
theorem dX12_callAt_1 : decode cX12_callAt 1 = .ok (.iload_n 1, 1) := by decide +kernel
theorem dX12_callAt_2 : decode cX12_callAt 2 = .ok (.iconst 0, 1) := by decide +kernel
theorem dX12_callAt_3 : decode cX12_callAt 3 = .ok (.aload_n 0, 1) := by decide +kernel
theorem dX12_callAt_4 : decode cX12_callAt 4 = .ok (.getfield 9, 3) := by decide +kernel
theorem dX12_callAt_7 : decode cX12_callAt 7 = .ok (.bipush 20, 2) := by decide +kernel
theorem dX12_callAt_9 : decode cX12_callAt 9 = .ok (.iaload, 1) := by decide +kernel
theorem dX12_callAt_10 : decode cX12_callAt 10 = .ok (.iconst 1, 1) := by decide +kernel
theorem dX12_callAt_11 : decode cX12_callAt 11 = .ok (.isub, 1) := by decide +kernel
theorem dX12_callAt_12 : decode cX12_callAt 12 = .ok (.invokevirtual 504, 3) := by decide +kernel
theorem dX12_callAt_15 : decode cX12_callAt 15 = .ok (.ifCond .eq 7, 3) := by decide +kernel
theorem dX12_callAt_18 : decode cX12_callAt 18 = .ok (.iconst 0, 1) := by decide +kernel
theorem dX12_callAt_19 : decode cX12_callAt 19 = .ok (.goto 22, 3) := by decide +kernel
theorem dX12_callAt_22 : decode cX12_callAt 22 = .ok (.aload_n 0, 1) := by decide +kernel
theorem dX12_callAt_23 : decode cX12_callAt 23 = .ok (.getfield 9, 3) := by decide +kernel
theorem dX12_callAt_26 : decode cX12_callAt 26 = .ok (.bipush 37, 2) := by decide +kernel
theorem dX12_callAt_28 : decode cX12_callAt 28 = .ok (.aload_n 0, 1) := by decide +kernel
theorem dX12_callAt_29 : decode cX12_callAt 29 = .ok (.getfield 9, 3) := by decide +kernel
theorem dX12_callAt_32 : decode cX12_callAt 32 = .ok (.bipush 20, 2) := by decide +kernel
theorem dX12_callAt_34 : decode cX12_callAt 34 = .ok (.iaload, 1) := by decide +kernel
theorem dX12_callAt_35 : decode cX12_callAt 35 = .ok (.iadd, 1) := by decide +kernel
theorem dX12_callAt_36 : decode cX12_callAt 36 = .ok (.iconst 1, 1) := by decide +kernel
theorem dX12_callAt_37 : decode cX12_callAt 37 = .ok (.isub, 1) := by decide +kernel
theorem dX12_callAt_38 : decode cX12_callAt 38 = .ok (.iload_n 1, 1) := by decide +kernel
theorem dX12_callAt_39 : decode cX12_callAt 39 = .ok (.isub, 1) := by decide +kernel
theorem dX12_callAt_40 : decode cX12_callAt 40 = .ok (.iaload, 1) := by decide +kernel
theorem dX12_callAt_41 : decode cX12_callAt 41 = .ok (.ireturn, 1) := by decide +kernel
theorem dX12_timesAt_0 : decode cX12_timesAt 0 = .ok (.aload_n 0, 1) := by decide +kernel
theorem dX12_timesAt_1 : decode cX12_timesAt 1 = .ok (.iload_n 1, 1) := by decide +kernel
theorem dX12_timesAt_2 : decode cX12_timesAt 2 = .ok (.iconst 0, 1) := by decide +kernel
theorem dX12_timesAt_3 : decode cX12_timesAt 3 = .ok (.sipush 4095, 3) := by decide +kernel
theorem dX12_timesAt_6 : decode cX12_timesAt 6 = .ok (.invokevirtual 504, 3) := by decide +kernel
theorem dX12_timesAt_9 : decode cX12_timesAt 9 = .ok (.ifCond .eq 7, 3) := by decide +kernel
theorem dX12_timesAt_12 : decode cX12_timesAt 12 = .ok (.iconst 0, 1) := by decide +kernel
theorem dX12_timesAt_13 : decode cX12_timesAt 13 = .ok (.goto 13, 3) := by decide +kernel
theorem dX12_timesAt_16 : decode cX12_timesAt 16 = .ok (.aload_n 0, 1) := by decide +kernel
theorem dX12_timesAt_17 : decode cX12_timesAt 17 = .ok (.getfield 9, 3) := by decide +kernel
theorem dX12_timesAt_20 : decode cX12_timesAt 20 = .ok (.sipush 12109, 3) := by decide +kernel
theorem dX12_timesAt_23 : decode cX12_timesAt 23 = .ok (.iload_n 1, 1) := by decide +kernel
theorem dX12_timesAt_24 : decode cX12_timesAt 24 = .ok (.iadd, 1) := by decide +kernel
theorem dX12_timesAt_25 : decode cX12_timesAt 25 = .ok (.iaload, 1) := by decide +kernel
theorem dX12_timesAt_26 : decode cX12_timesAt 26 = .ok (.ireturn, 1) := by decide +kernel
theorem dX12_hot_0 : decode cX12_hot 0 = .ok (.iconst (-1), 1) := by decide +kernel
theorem dX12_hot_1 : decode cX12_hot 1 = .ok (.istore_n 1, 1) := by decide +kernel
theorem dX12_hot_2 : decode cX12_hot 2 = .ok (.iconst 0, 1) := by decide +kernel
theorem dX12_hot_3 : decode cX12_hot 3 = .ok (.istore_n 2, 1) := by decide +kernel
theorem dX12_hot_4 : decode cX12_hot 4 = .ok (.iload_n 2, 1) := by decide +kernel
theorem dX12_hot_5 : decode cX12_hot 5 = .ok (.sipush 4096, 3) := by decide +kernel
theorem dX12_hot_8 : decode cX12_hot 8 = .ok (.if_icmp .ge 42, 3) := by decide +kernel
theorem dX12_hot_11 : decode cX12_hot 11 = .ok (.aload_n 0, 1) := by decide +kernel
theorem dX12_hot_12 : decode cX12_hot 12 = .ok (.getfield 9, 3) := by decide +kernel
theorem dX12_hot_15 : decode cX12_hot 15 = .ok (.sipush 12109, 3) := by decide +kernel
theorem dX12_hot_18 : decode cX12_hot 18 = .ok (.iload_n 2, 1) := by decide +kernel
theorem dX12_hot_19 : decode cX12_hot 19 = .ok (.iadd, 1) := by decide +kernel
theorem dX12_hot_20 : decode cX12_hot 20 = .ok (.iaload, 1) := by decide +kernel
theorem dX12_hot_21 : decode cX12_hot 21 = .ok (.iload_n 1, 1) := by decide +kernel
theorem dX12_hot_22 : decode cX12_hot 22 = .ok (.ifCond .ge 7, 3) := by decide +kernel
theorem dX12_hot_25 : decode cX12_hot 25 = .ok (.iconst 0, 1) := by decide +kernel
theorem dX12_hot_26 : decode cX12_hot 26 = .ok (.goto 13, 3) := by decide +kernel
theorem dX12_hot_29 : decode cX12_hot 29 = .ok (.aload_n 0, 1) := by decide +kernel
theorem dX12_hot_30 : decode cX12_hot 30 = .ok (.getfield 9, 3) := by decide +kernel
theorem dX12_hot_33 : decode cX12_hot 33 = .ok (.sipush 12109, 3) := by decide +kernel
theorem dX12_hot_36 : decode cX12_hot 36 = .ok (.iload_n 1, 1) := by decide +kernel
theorem dX12_hot_37 : decode cX12_hot 37 = .ok (.iadd, 1) := by decide +kernel
theorem dX12_hot_38 : decode cX12_hot 38 = .ok (.iaload, 1) := by decide +kernel
theorem dX12_hot_39 : decode cX12_hot 39 = .ok (.if_icmp .le 5, 3) := by decide +kernel
theorem dX12_hot_42 : decode cX12_hot 42 = .ok (.iload_n 2, 1) := by decide +kernel
theorem dX12_hot_43 : decode cX12_hot 43 = .ok (.istore_n 1, 1) := by decide +kernel
theorem dX12_hot_44 : decode cX12_hot 44 = .ok (.iinc 2 1, 3) := by decide +kernel
theorem dX12_hot_47 : decode cX12_hot 47 = .ok (.goto (-43), 3) := by decide +kernel
theorem dX12_hot_50 : decode cX12_hot 50 = .ok (.iload_n 1, 1) := by decide +kernel
theorem dX12_hot_51 : decode cX12_hot 51 = .ok (.ireturn, 1) := by decide +kernel
theorem dX12_hottest_0 : decode cX12_hottest 0 = .ok (.aload_n 0, 1) := by decide +kernel
theorem dX12_hottest_1 : decode cX12_hottest 1 = .ok (.iconst 0, 1) := by decide +kernel
theorem dX12_hottest_2 : decode cX12_hottest 2 = .ok (.putfield 93, 3) := by decide +kernel
theorem dX12_hottest_5 : decode cX12_hottest 5 = .ok (.aload_n 0, 1) := by decide +kernel
theorem dX12_hottest_6 : decode cX12_hottest 6 = .ok (.invokevirtual 534, 3) := by decide +kernel
theorem dX12_hottest_9 : decode cX12_hottest 9 = .ok (.ireturn, 1) := by decide +kernel
theorem dX12_codeAt_0 : decode cX12_codeAt 0 = .ok (.aload_n 0, 1) := by decide +kernel
theorem dX12_codeAt_1 : decode cX12_codeAt 1 = .ok (.iload_n 1, 1) := by decide +kernel
theorem dX12_codeAt_2 : decode cX12_codeAt 2 = .ok (.iconst 0, 1) := by decide +kernel
theorem dX12_codeAt_3 : decode cX12_codeAt 3 = .ok (.sipush 4095, 3) := by decide +kernel
theorem dX12_codeAt_6 : decode cX12_codeAt 6 = .ok (.invokevirtual 504, 3) := by decide +kernel
theorem dX12_codeAt_9 : decode cX12_codeAt 9 = .ok (.ifCond .eq 7, 3) := by decide +kernel
theorem dX12_codeAt_12 : decode cX12_codeAt 12 = .ok (.iconst 0, 1) := by decide +kernel
theorem dX12_codeAt_13 : decode cX12_codeAt 13 = .ok (.goto 23, 3) := by decide +kernel
theorem dX12_codeAt_16 : decode cX12_codeAt 16 = .ok (.aload_n 0, 1) := by decide +kernel
theorem dX12_codeAt_17 : decode cX12_codeAt 17 = .ok (.iload_n 1, 1) := by decide +kernel
theorem dX12_codeAt_18 : decode cX12_codeAt 18 = .ok (.invokevirtual 125, 3) := by decide +kernel
theorem dX12_codeAt_21 : decode cX12_codeAt 21 = .ok (.invokestatic 253, 3) := by decide +kernel
theorem dX12_codeAt_24 : decode cX12_codeAt 24 = .ok (.ifCond .eq 11, 3) := by decide +kernel
theorem dX12_codeAt_27 : decode cX12_codeAt 27 = .ok (.aload_n 0, 1) := by decide +kernel
theorem dX12_codeAt_28 : decode cX12_codeAt 28 = .ok (.iload_n 1, 1) := by decide +kernel
theorem dX12_codeAt_29 : decode cX12_codeAt 29 = .ok (.invokevirtual 125, 3) := by decide +kernel
theorem dX12_codeAt_32 : decode cX12_codeAt 32 = .ok (.goto 4, 3) := by decide +kernel
theorem dX12_codeAt_35 : decode cX12_codeAt 35 = .ok (.iconst (-1), 1) := by decide +kernel
theorem dX12_codeAt_36 : decode cX12_codeAt 36 = .ok (.ireturn, 1) := by decide +kernel
theorem dX12_lengthAt_0 : decode cX12_lengthAt 0 = .ok (.aload_n 0, 1) := by decide +kernel
theorem dX12_lengthAt_1 : decode cX12_lengthAt 1 = .ok (.iload_n 1, 1) := by decide +kernel
theorem dX12_lengthAt_2 : decode cX12_lengthAt 2 = .ok (.iconst 0, 1) := by decide +kernel
theorem dX12_lengthAt_3 : decode cX12_lengthAt 3 = .ok (.sipush 4095, 3) := by decide +kernel
theorem dX12_lengthAt_6 : decode cX12_lengthAt 6 = .ok (.invokevirtual 504, 3) := by decide +kernel
theorem dX12_lengthAt_9 : decode cX12_lengthAt 9 = .ok (.ifCond .ne 14, 3) := by decide +kernel
theorem dX12_lengthAt_12 : decode cX12_lengthAt 12 = .ok (.aload_n 0, 1) := by decide +kernel
theorem dX12_lengthAt_13 : decode cX12_lengthAt 13 = .ok (.iload_n 1, 1) := by decide +kernel
theorem dX12_lengthAt_14 : decode cX12_lengthAt 14 = .ok (.invokevirtual 125, 3) := by decide +kernel
theorem dX12_lengthAt_17 : decode cX12_lengthAt 17 = .ok (.invokestatic 253, 3) := by decide +kernel
theorem dX12_lengthAt_20 : decode cX12_lengthAt 20 = .ok (.ifCond .ne 7, 3) := by decide +kernel
theorem dX12_lengthAt_23 : decode cX12_lengthAt 23 = .ok (.iconst 0, 1) := by decide +kernel
theorem dX12_lengthAt_24 : decode cX12_lengthAt 24 = .ok (.goto 11, 3) := by decide +kernel
theorem dX12_lengthAt_27 : decode cX12_lengthAt 27 = .ok (.aload_n 0, 1) := by decide +kernel
theorem dX12_lengthAt_28 : decode cX12_lengthAt 28 = .ok (.iload_n 1, 1) := by decide +kernel
theorem dX12_lengthAt_29 : decode cX12_lengthAt 29 = .ok (.invokevirtual 125, 3) := by decide +kernel
theorem dX12_lengthAt_32 : decode cX12_lengthAt 32 = .ok (.invokestatic 228, 3) := by decide +kernel
theorem dX12_lengthAt_35 : decode cX12_lengthAt 35 = .ok (.ireturn, 1) := by decide +kernel
theorem dX12_operandAt_0 : decode cX12_operandAt 0 = .ok (.aload_n 0, 1) := by decide +kernel
theorem dX12_operandAt_1 : decode cX12_operandAt 1 = .ok (.iload_n 1, 1) := by decide +kernel
theorem dX12_operandAt_2 : decode cX12_operandAt 2 = .ok (.iconst 0, 1) := by decide +kernel
theorem dX12_operandAt_3 : decode cX12_operandAt 3 = .ok (.sipush 4095, 3) := by decide +kernel
theorem dX12_operandAt_6 : decode cX12_operandAt 6 = .ok (.invokevirtual 504, 3) := by decide +kernel
theorem dX12_operandAt_9 : decode cX12_operandAt 9 = .ok (.ifCond .eq 5, 3) := by decide +kernel
theorem dX12_operandAt_12 : decode cX12_operandAt 12 = .ok (.iconst 0, 1) := by decide +kernel
theorem dX12_operandAt_13 : decode cX12_operandAt 13 = .ok (.ireturn, 1) := by decide +kernel
theorem dX12_operandAt_14 : decode cX12_operandAt 14 = .ok (.aload_n 0, 1) := by decide +kernel
theorem dX12_operandAt_15 : decode cX12_operandAt 15 = .ok (.iload_n 1, 1) := by decide +kernel
theorem dX12_operandAt_16 : decode cX12_operandAt 16 = .ok (.invokevirtual 125, 3) := by decide +kernel
theorem dX12_operandAt_19 : decode cX12_operandAt 19 = .ok (.istore_n 2, 1) := by decide +kernel
theorem dX12_operandAt_20 : decode cX12_operandAt 20 = .ok (.iload_n 2, 1) := by decide +kernel
theorem dX12_operandAt_21 : decode cX12_operandAt 21 = .ok (.invokestatic 253, 3) := by decide +kernel
theorem dX12_operandAt_24 : decode cX12_operandAt 24 = .ok (.ifCond .eq 11, 3) := by decide +kernel
theorem dX12_operandAt_27 : decode cX12_operandAt 27 = .ok (.iload_n 2, 1) := by decide +kernel
theorem dX12_operandAt_28 : decode cX12_operandAt 28 = .ok (.invokestatic 228, 3) := by decide +kernel
theorem dX12_operandAt_31 : decode cX12_operandAt 31 = .ok (.iconst 1, 1) := by decide +kernel
theorem dX12_operandAt_32 : decode cX12_operandAt 32 = .ok (.if_icmp .ne 5, 3) := by decide +kernel
theorem dX12_operandAt_35 : decode cX12_operandAt 35 = .ok (.iconst (-1), 1) := by decide +kernel
theorem dX12_operandAt_36 : decode cX12_operandAt 36 = .ok (.ireturn, 1) := by decide +kernel
theorem dX12_operandAt_37 : decode cX12_operandAt 37 = .ok (.iload_n 2, 1) := by decide +kernel
theorem dX12_operandAt_38 : decode cX12_operandAt 38 = .ok (.sipush 208, 3) := by decide +kernel
theorem dX12_operandAt_41 : decode cX12_operandAt 41 = .ok (.if_icmp .lt 9, 3) := by decide +kernel
theorem dX12_operandAt_44 : decode cX12_operandAt 44 = .ok (.aload_n 0, 1) := by decide +kernel
theorem dX12_operandAt_45 : decode cX12_operandAt 45 = .ok (.iload_n 1, 1) := by decide +kernel
theorem dX12_operandAt_46 : decode cX12_operandAt 46 = .ok (.invokevirtual 537, 3) := by decide +kernel
theorem dX12_operandAt_49 : decode cX12_operandAt 49 = .ok (.ireturn, 1) := by decide +kernel
theorem dX12_operandAt_50 : decode cX12_operandAt 50 = .ok (.aload_n 0, 1) := by decide +kernel
theorem dX12_operandAt_51 : decode cX12_operandAt 51 = .ok (.iload_n 1, 1) := by decide +kernel
theorem dX12_operandAt_52 : decode cX12_operandAt 52 = .ok (.iconst 1, 1) := by decide +kernel
theorem dX12_operandAt_53 : decode cX12_operandAt 53 = .ok (.iadd, 1) := by decide +kernel
theorem dX12_operandAt_54 : decode cX12_operandAt 54 = .ok (.invokevirtual 125, 3) := by decide +kernel
theorem dX12_operandAt_57 : decode cX12_operandAt 57 = .ok (.iload_n 2, 1) := by decide +kernel
theorem dX12_operandAt_58 : decode cX12_operandAt 58 = .ok (.invokestatic 228, 3) := by decide +kernel
theorem dX12_operandAt_61 : decode cX12_operandAt 61 = .ok (.iconst 3, 1) := by decide +kernel
theorem dX12_operandAt_62 : decode cX12_operandAt 62 = .ok (.if_icmp .ne 17, 3) := by decide +kernel
theorem dX12_operandAt_65 : decode cX12_operandAt 65 = .ok (.sipush 256, 3) := by decide +kernel
theorem dX12_operandAt_68 : decode cX12_operandAt 68 = .ok (.aload_n 0, 1) := by decide +kernel
theorem dX12_operandAt_69 : decode cX12_operandAt 69 = .ok (.iload_n 1, 1) := by decide +kernel
theorem dX12_operandAt_70 : decode cX12_operandAt 70 = .ok (.iconst 2, 1) := by decide +kernel
theorem dX12_operandAt_71 : decode cX12_operandAt 71 = .ok (.iadd, 1) := by decide +kernel
theorem dX12_operandAt_72 : decode cX12_operandAt 72 = .ok (.invokevirtual 125, 3) := by decide +kernel
theorem dX12_operandAt_75 : decode cX12_operandAt 75 = .ok (.imul, 1) := by decide +kernel
theorem dX12_operandAt_76 : decode cX12_operandAt 76 = .ok (.goto 4, 3) := by decide +kernel
theorem dX12_operandAt_79 : decode cX12_operandAt 79 = .ok (.iconst 0, 1) := by decide +kernel
theorem dX12_operandAt_80 : decode cX12_operandAt 80 = .ok (.iadd, 1) := by decide +kernel
theorem dX12_operandAt_81 : decode cX12_operandAt 81 = .ok (.ireturn, 1) := by decide +kernel
theorem dX12_trial_0 : decode cX12_trial 0 = .ok (.aload_n 0, 1) := by decide +kernel
theorem dX12_trial_1 : decode cX12_trial 1 = .ok (.getfield 9, 3) := by decide +kernel
theorem dX12_trial_4 : decode cX12_trial 4 = .ok (.astore_n 1, 1) := by decide +kernel
theorem dX12_trial_5 : decode cX12_trial 5 = .ok (.aload_n 0, 1) := by decide +kernel
theorem dX12_trial_6 : decode cX12_trial 6 = .ok (.sipush 16205, 3) := by decide +kernel
theorem dX12_trial_9 : decode cX12_trial 9 = .ok (.newarray .int, 2) := by decide +kernel
theorem dX12_trial_11 : decode cX12_trial 11 = .ok (.putfield 9, 3) := by decide +kernel
theorem dX12_trial_14 : decode cX12_trial 14 = .ok (.aload_n 1, 1) := by decide +kernel
theorem dX12_trial_15 : decode cX12_trial 15 = .ok (.iconst 0, 1) := by decide +kernel
theorem dX12_trial_16 : decode cX12_trial 16 = .ok (.aload_n 0, 1) := by decide +kernel
theorem dX12_trial_17 : decode cX12_trial 17 = .ok (.getfield 9, 3) := by decide +kernel
theorem dX12_trial_20 : decode cX12_trial 20 = .ok (.iconst 0, 1) := by decide +kernel
theorem dX12_trial_21 : decode cX12_trial 21 = .ok (.sipush 16205, 3) := by decide +kernel
theorem dX12_trial_24 : decode cX12_trial 24 = .ok (.invokestatic 111, 3) := by decide +kernel
theorem dX12_trial_27 : decode cX12_trial 27 = .ok (.aload_n 1, 1) := by decide +kernel
theorem dX12_trial_28 : decode cX12_trial 28 = .ok (.areturn, 1) := by decide +kernel
theorem dX12_cyclesToHalt_0 : decode cX12_cyclesToHalt 0 = .ok (.aload_n 0, 1) := by decide +kernel
theorem dX12_cyclesToHalt_1 : decode cX12_cyclesToHalt 1 = .ok (.iload_n 1, 1) := by decide +kernel
theorem dX12_cyclesToHalt_2 : decode cX12_cyclesToHalt 2 = .ok (.iconst 1, 1) := by decide +kernel
theorem dX12_cyclesToHalt_3 : decode cX12_cyclesToHalt 3 = .ok (.sipush 5000, 3) := by decide +kernel
theorem dX12_cyclesToHalt_6 : decode cX12_cyclesToHalt 6 = .ok (.invokevirtual 504, 3) := by decide +kernel
theorem dX12_cyclesToHalt_9 : decode cX12_cyclesToHalt 9 = .ok (.ifCond .eq 5, 3) := by decide +kernel
theorem dX12_cyclesToHalt_12 : decode cX12_cyclesToHalt 12 = .ok (.iconst 0, 1) := by decide +kernel
theorem dX12_cyclesToHalt_13 : decode cX12_cyclesToHalt 13 = .ok (.ireturn, 1) := by decide +kernel
theorem dX12_cyclesToHalt_14 : decode cX12_cyclesToHalt 14 = .ok (.aload_n 0, 1) := by decide +kernel
theorem dX12_cyclesToHalt_15 : decode cX12_cyclesToHalt 15 = .ok (.invokevirtual 540, 3) := by decide +kernel
theorem dX12_cyclesToHalt_18 : decode cX12_cyclesToHalt 18 = .ok (.astore_n 2, 1) := by decide +kernel
theorem dX12_cyclesToHalt_19 : decode cX12_cyclesToHalt 19 = .ok (.iconst 0, 1) := by decide +kernel
theorem dX12_cyclesToHalt_20 : decode cX12_cyclesToHalt 20 = .ok (.istore_n 3, 1) := by decide +kernel
theorem dX12_cyclesToHalt_21 : decode cX12_cyclesToHalt 21 = .ok (.aload_n 0, 1) := by decide +kernel
theorem dX12_cyclesToHalt_22 : decode cX12_cyclesToHalt 22 = .ok (.invokevirtual 259, 3) := by decide +kernel
theorem dX12_cyclesToHalt_25 : decode cX12_cyclesToHalt 25 = .ok (.ifCond .ne 18, 3) := by decide +kernel
theorem dX12_cyclesToHalt_28 : decode cX12_cyclesToHalt 28 = .ok (.iload_n 3, 1) := by decide +kernel
theorem dX12_cyclesToHalt_29 : decode cX12_cyclesToHalt 29 = .ok (.iload_n 1, 1) := by decide +kernel
theorem dX12_cyclesToHalt_30 : decode cX12_cyclesToHalt 30 = .ok (.if_icmp .ge 13, 3) := by decide +kernel
theorem dX12_cyclesToHalt_33 : decode cX12_cyclesToHalt 33 = .ok (.iload_n 3, 1) := by decide +kernel
theorem dX12_cyclesToHalt_34 : decode cX12_cyclesToHalt 34 = .ok (.aload_n 0, 1) := by decide +kernel
theorem dX12_cyclesToHalt_35 : decode cX12_cyclesToHalt 35 = .ok (.invokevirtual 269, 3) := by decide +kernel
theorem dX12_cyclesToHalt_38 : decode cX12_cyclesToHalt 38 = .ok (.iadd, 1) := by decide +kernel
theorem dX12_cyclesToHalt_39 : decode cX12_cyclesToHalt 39 = .ok (.istore_n 3, 1) := by decide +kernel
theorem dX12_cyclesToHalt_40 : decode cX12_cyclesToHalt 40 = .ok (.goto (-19), 3) := by decide +kernel
theorem dX12_cyclesToHalt_43 : decode cX12_cyclesToHalt 43 = .ok (.aload_n 0, 1) := by decide +kernel
theorem dX12_cyclesToHalt_44 : decode cX12_cyclesToHalt 44 = .ok (.invokevirtual 259, 3) := by decide +kernel
theorem dX12_cyclesToHalt_47 : decode cX12_cyclesToHalt 47 = .ok (.istore 4, 2) := by decide +kernel
theorem dX12_cyclesToHalt_49 : decode cX12_cyclesToHalt 49 = .ok (.aload_n 0, 1) := by decide +kernel
theorem dX12_cyclesToHalt_50 : decode cX12_cyclesToHalt 50 = .ok (.aload_n 2, 1) := by decide +kernel
theorem dX12_cyclesToHalt_51 : decode cX12_cyclesToHalt 51 = .ok (.putfield 9, 3) := by decide +kernel
theorem dX12_cyclesToHalt_54 : decode cX12_cyclesToHalt 54 = .ok (.iload 4, 2) := by decide +kernel
theorem dX12_cyclesToHalt_56 : decode cX12_cyclesToHalt 56 = .ok (.ifCond .eq 7, 3) := by decide +kernel
theorem dX12_cyclesToHalt_59 : decode cX12_cyclesToHalt 59 = .ok (.iload_n 3, 1) := by decide +kernel
theorem dX12_cyclesToHalt_60 : decode cX12_cyclesToHalt 60 = .ok (.goto 4, 3) := by decide +kernel
theorem dX12_cyclesToHalt_63 : decode cX12_cyclesToHalt 63 = .ok (.iconst (-1), 1) := by decide +kernel
theorem dX12_cyclesToHalt_64 : decode cX12_cyclesToHalt 64 = .ok (.ireturn, 1) := by decide +kernel
theorem dX12_isAt_0 : decode cX12_isAt 0 = .ok (.aload_n 0, 1) := by decide +kernel
theorem dX12_isAt_1 : decode cX12_isAt 1 = .ok (.getfield 9, 3) := by decide +kernel
theorem dX12_isAt_4 : decode cX12_isAt 4 = .ok (.iconst 5, 1) := by decide +kernel
theorem dX12_isAt_5 : decode cX12_isAt 5 = .ok (.iaload, 1) := by decide +kernel
theorem dX12_isAt_6 : decode cX12_isAt 6 = .ok (.ifCond .ne 24, 3) := by decide +kernel
theorem dX12_isAt_9 : decode cX12_isAt 9 = .ok (.aload_n 0, 1) := by decide +kernel
theorem dX12_isAt_10 : decode cX12_isAt 10 = .ok (.invokevirtual 510, 3) := by decide +kernel
theorem dX12_isAt_13 : decode cX12_isAt 13 = .ok (.ifCond .ne 17, 3) := by decide +kernel
theorem dX12_isAt_16 : decode cX12_isAt 16 = .ok (.aload_n 0, 1) := by decide +kernel
theorem dX12_isAt_17 : decode cX12_isAt 17 = .ok (.getfield 9, 3) := by decide +kernel
theorem dX12_isAt_20 : decode cX12_isAt 20 = .ok (.iconst 4, 1) := by decide +kernel
theorem dX12_isAt_21 : decode cX12_isAt 21 = .ok (.iaload, 1) := by decide +kernel
theorem dX12_isAt_22 : decode cX12_isAt 22 = .ok (.iload_n 1, 1) := by decide +kernel
theorem dX12_isAt_23 : decode cX12_isAt 23 = .ok (.if_icmp .ne 7, 3) := by decide +kernel
theorem dX12_isAt_26 : decode cX12_isAt 26 = .ok (.iconst 1, 1) := by decide +kernel
theorem dX12_isAt_27 : decode cX12_isAt 27 = .ok (.goto 4, 3) := by decide +kernel
theorem dX12_isAt_30 : decode cX12_isAt 30 = .ok (.iconst 0, 1) := by decide +kernel
theorem dX12_isAt_31 : decode cX12_isAt 31 = .ok (.ireturn, 1) := by decide +kernel
theorem dX12_cyclesToReach_0 : decode cX12_cyclesToReach 0 = .ok (.aload_n 0, 1) := by decide +kernel
theorem dX12_cyclesToReach_1 : decode cX12_cyclesToReach 1 = .ok (.iload_n 1, 1) := by decide +kernel
theorem dX12_cyclesToReach_2 : decode cX12_cyclesToReach 2 = .ok (.iconst 0, 1) := by decide +kernel
theorem dX12_cyclesToReach_3 : decode cX12_cyclesToReach 3 = .ok (.sipush 4095, 3) := by decide +kernel
theorem dX12_cyclesToReach_6 : decode cX12_cyclesToReach 6 = .ok (.invokevirtual 504, 3) := by decide +kernel
theorem dX12_cyclesToReach_9 : decode cX12_cyclesToReach 9 = .ok (.ifCond .ne 27, 3) := by decide +kernel
theorem dX12_cyclesToReach_12 : decode cX12_cyclesToReach 12 = .ok (.aload_n 0, 1) := by decide +kernel
theorem dX12_cyclesToReach_13 : decode cX12_cyclesToReach 13 = .ok (.iload_n 2, 1) := by decide +kernel
theorem dX12_cyclesToReach_14 : decode cX12_cyclesToReach 14 = .ok (.iconst 1, 1) := by decide +kernel
theorem dX12_cyclesToReach_15 : decode cX12_cyclesToReach 15 = .ok (.sipush 5000, 3) := by decide +kernel
theorem dX12_cyclesToReach_18 : decode cX12_cyclesToReach 18 = .ok (.invokestatic 96, 3) := by decide +kernel
theorem dX12_cyclesToReach_21 : decode cX12_cyclesToReach 21 = .ok (.ifCond .ne 7, 3) := by decide +kernel
theorem dX12_cyclesToReach_24 : decode cX12_cyclesToReach 24 = .ok (.iconst 1, 1) := by decide +kernel
theorem dX12_cyclesToReach_25 : decode cX12_cyclesToReach 25 = .ok (.goto 4, 3) := by decide +kernel
theorem dX12_cyclesToReach_28 : decode cX12_cyclesToReach 28 = .ok (.iconst 0, 1) := by decide +kernel
theorem dX12_cyclesToReach_29 : decode cX12_cyclesToReach 29 = .ok (.iconst 1, 1) := by decide +kernel
theorem dX12_cyclesToReach_30 : decode cX12_cyclesToReach 30 = .ok (.invokevirtual 100, 3) := by decide +kernel
theorem dX12_cyclesToReach_33 : decode cX12_cyclesToReach 33 = .ok (.ifCond .eq 5, 3) := by decide +kernel
theorem dX12_cyclesToReach_36 : decode cX12_cyclesToReach 36 = .ok (.iconst 0, 1) := by decide +kernel
theorem dX12_cyclesToReach_37 : decode cX12_cyclesToReach 37 = .ok (.ireturn, 1) := by decide +kernel
theorem dX12_cyclesToReach_38 : decode cX12_cyclesToReach 38 = .ok (.aload_n 0, 1) := by decide +kernel
theorem dX12_cyclesToReach_39 : decode cX12_cyclesToReach 39 = .ok (.invokevirtual 540, 3) := by decide +kernel
theorem dX12_cyclesToReach_42 : decode cX12_cyclesToReach 42 = .ok (.astore_n 3, 1) := by decide +kernel
theorem dX12_cyclesToReach_43 : decode cX12_cyclesToReach 43 = .ok (.iconst 0, 1) := by decide +kernel
theorem dX12_cyclesToReach_44 : decode cX12_cyclesToReach 44 = .ok (.istore 4, 2) := by decide +kernel
theorem dX12_cyclesToReach_46 : decode cX12_cyclesToReach 46 = .ok (.aload_n 0, 1) := by decide +kernel
theorem dX12_cyclesToReach_47 : decode cX12_cyclesToReach 47 = .ok (.iload_n 1, 1) := by decide +kernel
theorem dX12_cyclesToReach_48 : decode cX12_cyclesToReach 48 = .ok (.invokevirtual 544, 3) := by decide +kernel
theorem dX12_cyclesToReach_51 : decode cX12_cyclesToReach 51 = .ok (.ifCond .ne 28, 3) := by decide +kernel
theorem dX12_cyclesToReach_54 : decode cX12_cyclesToReach 54 = .ok (.aload_n 0, 1) := by decide +kernel
theorem dX12_cyclesToReach_55 : decode cX12_cyclesToReach 55 = .ok (.invokevirtual 259, 3) := by decide +kernel
theorem dX12_cyclesToReach_58 : decode cX12_cyclesToReach 58 = .ok (.ifCond .ne 21, 3) := by decide +kernel
theorem dX12_cyclesToReach_61 : decode cX12_cyclesToReach 61 = .ok (.iload 4, 2) := by decide +kernel
theorem dX12_cyclesToReach_63 : decode cX12_cyclesToReach 63 = .ok (.iload_n 2, 1) := by decide +kernel
theorem dX12_cyclesToReach_64 : decode cX12_cyclesToReach 64 = .ok (.if_icmp .ge 15, 3) := by decide +kernel
theorem dX12_cyclesToReach_67 : decode cX12_cyclesToReach 67 = .ok (.iload 4, 2) := by decide +kernel
theorem dX12_cyclesToReach_69 : decode cX12_cyclesToReach 69 = .ok (.aload_n 0, 1) := by decide +kernel
theorem dX12_cyclesToReach_70 : decode cX12_cyclesToReach 70 = .ok (.invokevirtual 269, 3) := by decide +kernel
theorem dX12_cyclesToReach_73 : decode cX12_cyclesToReach 73 = .ok (.iadd, 1) := by decide +kernel
theorem dX12_cyclesToReach_74 : decode cX12_cyclesToReach 74 = .ok (.istore 4, 2) := by decide +kernel
theorem dX12_cyclesToReach_76 : decode cX12_cyclesToReach 76 = .ok (.goto (-30), 3) := by decide +kernel
theorem dX12_cyclesToReach_79 : decode cX12_cyclesToReach 79 = .ok (.aload_n 0, 1) := by decide +kernel
theorem dX12_cyclesToReach_80 : decode cX12_cyclesToReach 80 = .ok (.iload_n 1, 1) := by decide +kernel
theorem dX12_cyclesToReach_81 : decode cX12_cyclesToReach 81 = .ok (.invokevirtual 544, 3) := by decide +kernel
theorem dX12_cyclesToReach_84 : decode cX12_cyclesToReach 84 = .ok (.istore 5, 2) := by decide +kernel
theorem dX12_cyclesToReach_86 : decode cX12_cyclesToReach 86 = .ok (.aload_n 0, 1) := by decide +kernel
theorem dX12_cyclesToReach_87 : decode cX12_cyclesToReach 87 = .ok (.aload_n 3, 1) := by decide +kernel
theorem dX12_cyclesToReach_88 : decode cX12_cyclesToReach 88 = .ok (.putfield 9, 3) := by decide +kernel
theorem dX12_cyclesToReach_91 : decode cX12_cyclesToReach 91 = .ok (.iload 5, 2) := by decide +kernel
theorem dX12_cyclesToReach_93 : decode cX12_cyclesToReach 93 = .ok (.ifCond .eq 8, 3) := by decide +kernel
theorem dX12_cyclesToReach_96 : decode cX12_cyclesToReach 96 = .ok (.iload 4, 2) := by decide +kernel
theorem dX12_cyclesToReach_98 : decode cX12_cyclesToReach 98 = .ok (.goto 4, 3) := by decide +kernel
theorem dX12_cyclesToReach_101 : decode cX12_cyclesToReach 101 = .ok (.iconst (-1), 1) := by decide +kernel
theorem dX12_cyclesToReach_102 : decode cX12_cyclesToReach 102 = .ok (.ireturn, 1) := by decide +kernel
theorem dX12_ahead_0 : decode cX12_ahead 0 = .ok (.iconst 0, 1) := by decide +kernel
theorem dX12_ahead_1 : decode cX12_ahead 1 = .ok (.istore_n 2, 1) := by decide +kernel
theorem dX12_ahead_2 : decode cX12_ahead 2 = .ok (.aload_n 0, 1) := by decide +kernel
theorem dX12_ahead_3 : decode cX12_ahead 3 = .ok (.invokevirtual 259, 3) := by decide +kernel
theorem dX12_ahead_6 : decode cX12_ahead 6 = .ok (.ifCond .ne 18, 3) := by decide +kernel
theorem dX12_ahead_9 : decode cX12_ahead 9 = .ok (.iload_n 2, 1) := by decide +kernel
theorem dX12_ahead_10 : decode cX12_ahead 10 = .ok (.iload_n 1, 1) := by decide +kernel
theorem dX12_ahead_11 : decode cX12_ahead 11 = .ok (.if_icmp .ge 13, 3) := by decide +kernel
theorem dX12_ahead_14 : decode cX12_ahead 14 = .ok (.iload_n 2, 1) := by decide +kernel
theorem dX12_ahead_15 : decode cX12_ahead 15 = .ok (.aload_n 0, 1) := by decide +kernel
theorem dX12_ahead_16 : decode cX12_ahead 16 = .ok (.invokevirtual 269, 3) := by decide +kernel
theorem dX12_ahead_19 : decode cX12_ahead 19 = .ok (.iadd, 1) := by decide +kernel
theorem dX12_ahead_20 : decode cX12_ahead 20 = .ok (.istore_n 2, 1) := by decide +kernel
theorem dX12_ahead_21 : decode cX12_ahead 21 = .ok (.goto (-19), 3) := by decide +kernel
theorem dX12_ahead_24 : decode cX12_ahead 24 = .ok (.return_, 1) := by decide +kernel
theorem dX12_outputsIn_0 : decode cX12_outputsIn 0 = .ok (.aload_n 0, 1) := by decide +kernel
theorem dX12_outputsIn_1 : decode cX12_outputsIn 1 = .ok (.iload_n 1, 1) := by decide +kernel
theorem dX12_outputsIn_2 : decode cX12_outputsIn 2 = .ok (.iconst 1, 1) := by decide +kernel
theorem dX12_outputsIn_3 : decode cX12_outputsIn 3 = .ok (.sipush 5000, 3) := by decide +kernel
theorem dX12_outputsIn_6 : decode cX12_outputsIn 6 = .ok (.invokevirtual 504, 3) := by decide +kernel
theorem dX12_outputsIn_9 : decode cX12_outputsIn 9 = .ok (.ifCond .eq 5, 3) := by decide +kernel
theorem dX12_outputsIn_12 : decode cX12_outputsIn 12 = .ok (.iconst 0, 1) := by decide +kernel
theorem dX12_outputsIn_13 : decode cX12_outputsIn 13 = .ok (.ireturn, 1) := by decide +kernel
theorem dX12_outputsIn_14 : decode cX12_outputsIn 14 = .ok (.aload_n 0, 1) := by decide +kernel
theorem dX12_outputsIn_15 : decode cX12_outputsIn 15 = .ok (.invokevirtual 540, 3) := by decide +kernel
theorem dX12_outputsIn_18 : decode cX12_outputsIn 18 = .ok (.astore_n 2, 1) := by decide +kernel
theorem dX12_outputsIn_19 : decode cX12_outputsIn 19 = .ok (.aload_n 0, 1) := by decide +kernel
theorem dX12_outputsIn_20 : decode cX12_outputsIn 20 = .ok (.iload_n 1, 1) := by decide +kernel
theorem dX12_outputsIn_21 : decode cX12_outputsIn 21 = .ok (.invokevirtual 547, 3) := by decide +kernel
theorem dX12_outputsIn_24 : decode cX12_outputsIn 24 = .ok (.aload_n 0, 1) := by decide +kernel
theorem dX12_outputsIn_25 : decode cX12_outputsIn 25 = .ok (.getfield 9, 3) := by decide +kernel
theorem dX12_outputsIn_28 : decode cX12_outputsIn 28 = .ok (.bipush 19, 2) := by decide +kernel
theorem dX12_outputsIn_30 : decode cX12_outputsIn 30 = .ok (.iaload, 1) := by decide +kernel
theorem dX12_outputsIn_31 : decode cX12_outputsIn 31 = .ok (.istore_n 3, 1) := by decide +kernel
theorem dX12_outputsIn_32 : decode cX12_outputsIn 32 = .ok (.aload_n 0, 1) := by decide +kernel
theorem dX12_outputsIn_33 : decode cX12_outputsIn 33 = .ok (.aload_n 2, 1) := by decide +kernel
theorem dX12_outputsIn_34 : decode cX12_outputsIn 34 = .ok (.putfield 9, 3) := by decide +kernel
theorem dX12_outputsIn_37 : decode cX12_outputsIn 37 = .ok (.iload_n 3, 1) := by decide +kernel
theorem dX12_outputsIn_38 : decode cX12_outputsIn 38 = .ok (.aload_n 0, 1) := by decide +kernel
theorem dX12_outputsIn_39 : decode cX12_outputsIn 39 = .ok (.getfield 9, 3) := by decide +kernel
theorem dX12_outputsIn_42 : decode cX12_outputsIn 42 = .ok (.bipush 19, 2) := by decide +kernel
theorem dX12_outputsIn_44 : decode cX12_outputsIn 44 = .ok (.iaload, 1) := by decide +kernel
theorem dX12_outputsIn_45 : decode cX12_outputsIn 45 = .ok (.isub, 1) := by decide +kernel
theorem dX12_outputsIn_46 : decode cX12_outputsIn 46 = .ok (.ireturn, 1) := by decide +kernel
theorem dX12_writesIn_0 : decode cX12_writesIn 0 = .ok (.aload_n 0, 1) := by decide +kernel
theorem dX12_writesIn_1 : decode cX12_writesIn 1 = .ok (.iload_n 1, 1) := by decide +kernel
theorem dX12_writesIn_2 : decode cX12_writesIn 2 = .ok (.iconst 0, 1) := by decide +kernel
theorem dX12_writesIn_3 : decode cX12_writesIn 3 = .ok (.sipush 4095, 3) := by decide +kernel
theorem dX12_writesIn_6 : decode cX12_writesIn 6 = .ok (.invokevirtual 504, 3) := by decide +kernel
theorem dX12_writesIn_9 : decode cX12_writesIn 9 = .ok (.ifCond .ne 27, 3) := by decide +kernel
theorem dX12_writesIn_12 : decode cX12_writesIn 12 = .ok (.aload_n 0, 1) := by decide +kernel
theorem dX12_writesIn_13 : decode cX12_writesIn 13 = .ok (.iload_n 2, 1) := by decide +kernel
theorem dX12_writesIn_14 : decode cX12_writesIn 14 = .ok (.iconst 1, 1) := by decide +kernel
theorem dX12_writesIn_15 : decode cX12_writesIn 15 = .ok (.sipush 5000, 3) := by decide +kernel
theorem dX12_writesIn_18 : decode cX12_writesIn 18 = .ok (.invokestatic 96, 3) := by decide +kernel
theorem dX12_writesIn_21 : decode cX12_writesIn 21 = .ok (.ifCond .ne 7, 3) := by decide +kernel
theorem dX12_writesIn_24 : decode cX12_writesIn 24 = .ok (.iconst 1, 1) := by decide +kernel
theorem dX12_writesIn_25 : decode cX12_writesIn 25 = .ok (.goto 4, 3) := by decide +kernel
theorem dX12_writesIn_28 : decode cX12_writesIn 28 = .ok (.iconst 0, 1) := by decide +kernel
theorem dX12_writesIn_29 : decode cX12_writesIn 29 = .ok (.iconst 1, 1) := by decide +kernel
theorem dX12_writesIn_30 : decode cX12_writesIn 30 = .ok (.invokevirtual 100, 3) := by decide +kernel
theorem dX12_writesIn_33 : decode cX12_writesIn 33 = .ok (.ifCond .eq 5, 3) := by decide +kernel
theorem dX12_writesIn_36 : decode cX12_writesIn 36 = .ok (.iconst 0, 1) := by decide +kernel
theorem dX12_writesIn_37 : decode cX12_writesIn 37 = .ok (.ireturn, 1) := by decide +kernel
theorem dX12_writesIn_38 : decode cX12_writesIn 38 = .ok (.aload_n 0, 1) := by decide +kernel
theorem dX12_writesIn_39 : decode cX12_writesIn 39 = .ok (.invokevirtual 540, 3) := by decide +kernel
theorem dX12_writesIn_42 : decode cX12_writesIn 42 = .ok (.astore_n 3, 1) := by decide +kernel
theorem dX12_writesIn_43 : decode cX12_writesIn 43 = .ok (.aload_n 0, 1) := by decide +kernel
theorem dX12_writesIn_44 : decode cX12_writesIn 44 = .ok (.iload_n 1, 1) := by decide +kernel
theorem dX12_writesIn_45 : decode cX12_writesIn 45 = .ok (.putfield 21, 3) := by decide +kernel
theorem dX12_writesIn_48 : decode cX12_writesIn 48 = .ok (.aload_n 0, 1) := by decide +kernel
theorem dX12_writesIn_49 : decode cX12_writesIn 49 = .ok (.iconst 0, 1) := by decide +kernel
theorem dX12_writesIn_50 : decode cX12_writesIn 50 = .ok (.putfield 144, 3) := by decide +kernel
theorem dX12_writesIn_53 : decode cX12_writesIn 53 = .ok (.aload_n 0, 1) := by decide +kernel
theorem dX12_writesIn_54 : decode cX12_writesIn 54 = .ok (.iload_n 2, 1) := by decide +kernel
theorem dX12_writesIn_55 : decode cX12_writesIn 55 = .ok (.invokevirtual 547, 3) := by decide +kernel
theorem dX12_writesIn_58 : decode cX12_writesIn 58 = .ok (.aload_n 0, 1) := by decide +kernel
theorem dX12_writesIn_59 : decode cX12_writesIn 59 = .ok (.iconst (-1), 1) := by decide +kernel
theorem dX12_writesIn_60 : decode cX12_writesIn 60 = .ok (.putfield 21, 3) := by decide +kernel
theorem dX12_writesIn_63 : decode cX12_writesIn 63 = .ok (.aload_n 0, 1) := by decide +kernel
theorem dX12_writesIn_64 : decode cX12_writesIn 64 = .ok (.aload_n 3, 1) := by decide +kernel
theorem dX12_writesIn_65 : decode cX12_writesIn 65 = .ok (.putfield 9, 3) := by decide +kernel
theorem dX12_writesIn_68 : decode cX12_writesIn 68 = .ok (.aload_n 0, 1) := by decide +kernel
theorem dX12_writesIn_69 : decode cX12_writesIn 69 = .ok (.getfield 144, 3) := by decide +kernel
theorem dX12_writesIn_72 : decode cX12_writesIn 72 = .ok (.ireturn, 1) := by decide +kernel
theorem dX12_reached_0 : decode cX12_reached 0 = .ok (.sipush 4096, 3) := by decide +kernel
theorem dX12_reached_3 : decode cX12_reached 3 = .ok (.newarray .boolean, 2) := by decide +kernel
theorem dX12_reached_5 : decode cX12_reached 5 = .ok (.astore_n 1, 1) := by decide +kernel
theorem dX12_reached_6 : decode cX12_reached 6 = .ok (.sipush 4096, 3) := by decide +kernel
theorem dX12_reached_9 : decode cX12_reached 9 = .ok (.newarray .int, 2) := by decide +kernel
theorem dX12_reached_11 : decode cX12_reached 11 = .ok (.astore_n 2, 1) := by decide +kernel
theorem dX12_reached_12 : decode cX12_reached 12 = .ok (.iconst 0, 1) := by decide +kernel
theorem dX12_reached_13 : decode cX12_reached 13 = .ok (.istore_n 3, 1) := by decide +kernel
theorem dX12_reached_14 : decode cX12_reached 14 = .ok (.iconst (-1), 1) := by decide +kernel
theorem dX12_reached_15 : decode cX12_reached 15 = .ok (.istore 4, 2) := by decide +kernel
theorem dX12_reached_17 : decode cX12_reached 17 = .ok (.iload 4, 2) := by decide +kernel
theorem dX12_reached_19 : decode cX12_reached 19 = .ok (.bipush 8, 2) := by decide +kernel
theorem dX12_reached_21 : decode cX12_reached 21 = .ok (.if_icmp .ge 51, 3) := by decide +kernel
theorem dX12_reached_24 : decode cX12_reached 24 = .ok (.iload 4, 2) := by decide +kernel
theorem dX12_reached_26 : decode cX12_reached 26 = .ok (.ifCond .ge 12, 3) := by decide +kernel
theorem dX12_reached_29 : decode cX12_reached 29 = .ok (.aload_n 0, 1) := by decide +kernel
theorem dX12_reached_30 : decode cX12_reached 30 = .ok (.getfield 9, 3) := by decide +kernel
theorem dX12_reached_33 : decode cX12_reached 33 = .ok (.iconst 4, 1) := by decide +kernel
theorem dX12_reached_34 : decode cX12_reached 34 = .ok (.iaload, 1) := by decide +kernel
theorem dX12_reached_35 : decode cX12_reached 35 = .ok (.goto 9, 3) := by decide +kernel
theorem dX12_reached_38 : decode cX12_reached 38 = .ok (.aload_n 0, 1) := by decide +kernel
theorem dX12_reached_39 : decode cX12_reached 39 = .ok (.iload 4, 2) := by decide +kernel
theorem dX12_reached_41 : decode cX12_reached 41 = .ok (.invokevirtual 275, 3) := by decide +kernel
theorem dX12_reached_44 : decode cX12_reached 44 = .ok (.istore 5, 2) := by decide +kernel
theorem dX12_reached_46 : decode cX12_reached 46 = .ok (.aload_n 1, 1) := by decide +kernel
theorem dX12_reached_47 : decode cX12_reached 47 = .ok (.iload 5, 2) := by decide +kernel
theorem dX12_reached_49 : decode cX12_reached 49 = .ok (.baload, 1) := by decide +kernel
theorem dX12_reached_50 : decode cX12_reached 50 = .ok (.ifCond .ne 11, 3) := by decide +kernel
theorem dX12_reached_53 : decode cX12_reached 53 = .ok (.aload_n 2, 1) := by decide +kernel
theorem dX12_reached_54 : decode cX12_reached 54 = .ok (.iload_n 3, 1) := by decide +kernel
theorem dX12_reached_55 : decode cX12_reached 55 = .ok (.iinc 3 1, 3) := by decide +kernel
