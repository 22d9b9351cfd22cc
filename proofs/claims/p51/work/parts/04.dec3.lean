theorem dX11_codes_0 : decode cX11_codes 0 = .ok (.aload_n 0, 1) := by decide +kernel
theorem dX11_codes_1 : decode cX11_codes 1 = .ok (.getfield 77, 3) := by decide +kernel
theorem dX11_codes_4 : decode cX11_codes 4 = .ok (.aload_n 0, 1) := by decide +kernel
theorem dX11_codes_5 : decode cX11_codes 5 = .ok (.getfield 53, 3) := by decide +kernel
theorem dX11_codes_8 : decode cX11_codes 8 = .ok (.invokevirtual 390, 3) := by decide +kernel
theorem dX11_codes_11 : decode cX11_codes 11 = .ok (.aload_n 0, 1) := by decide +kernel
theorem dX11_codes_12 : decode cX11_codes 12 = .ok (.getfield 77, 3) := by decide +kernel
theorem dX11_codes_15 : decode cX11_codes 15 = .ok (.getfield 396, 3) := by decide +kernel
theorem dX11_codes_18 : decode cX11_codes 18 = .ok (.ireturn, 1) := by decide +kernel
theorem dX11_at_0 : decode cX11_at 0 = .ok (.iload_n 1, 1) := by decide +kernel
theorem dX11_at_1 : decode cX11_at 1 = .ok (.ifCond .lt 15, 3) := by decide +kernel
theorem dX11_at_4 : decode cX11_at 4 = .ok (.iload_n 1, 1) := by decide +kernel
theorem dX11_at_5 : decode cX11_at 5 = .ok (.aload_n 0, 1) := by decide +kernel
theorem dX11_at_6 : decode cX11_at 6 = .ok (.arraylength, 1) := by decide +kernel
theorem dX11_at_7 : decode cX11_at 7 = .ok (.if_icmp .ge 9, 3) := by decide +kernel
theorem dX11_at_10 : decode cX11_at 10 = .ok (.aload_n 0, 1) := by decide +kernel
theorem dX11_at_11 : decode cX11_at 11 = .ok (.iload_n 1, 1) := by decide +kernel
theorem dX11_at_12 : decode cX11_at 12 = .ok (.iaload, 1) := by decide +kernel
theorem dX11_at_13 : decode cX11_at 13 = .ok (.goto 4, 3) := by decide +kernel
theorem dX11_at_16 : decode cX11_at 16 = .ok (.iconst 0, 1) := by decide +kernel
theorem dX11_at_17 : decode cX11_at 17 = .ok (.ireturn, 1) := by decide +kernel
theorem dX11_put_0 : decode cX11_put 0 = .ok (.iload_n 1, 1) := by decide +kernel
theorem dX11_put_1 : decode cX11_put 1 = .ok (.ifCond .lt 13, 3) := by decide +kernel
theorem dX11_put_4 : decode cX11_put 4 = .ok (.iload_n 1, 1) := by decide +kernel
theorem dX11_put_5 : decode cX11_put 5 = .ok (.aload_n 0, 1) := by decide +kernel
theorem dX11_put_6 : decode cX11_put 6 = .ok (.arraylength, 1) := by decide +kernel
theorem dX11_put_7 : decode cX11_put 7 = .ok (.if_icmp .ge 7, 3) := by decide +kernel
theorem dX11_put_10 : decode cX11_put 10 = .ok (.aload_n 0, 1) := by decide +kernel
theorem dX11_put_11 : decode cX11_put 11 = .ok (.iload_n 1, 1) := by decide +kernel
theorem dX11_put_12 : decode cX11_put 12 = .ok (.iload_n 2, 1) := by decide +kernel
theorem dX11_put_13 : decode cX11_put 13 = .ok (.iastore, 1) := by decide +kernel
theorem dX11_put_14 : decode cX11_put 14 = .ok (.return_, 1) := by decide +kernel
theorem dX11_placeOf_0 : decode cX11_placeOf 0 = .ok (.iload_n 0, 1) := by decide +kernel
theorem dX11_placeOf_1 : decode cX11_placeOf 1 = .ok (.sipush 1792, 3) := by decide +kernel
theorem dX11_placeOf_4 : decode cX11_placeOf 4 = .ok (.if_icmp .ge 5, 3) := by decide +kernel
theorem dX11_placeOf_7 : decode cX11_placeOf 7 = .ok (.iload_n 0, 1) := by decide +kernel
theorem dX11_placeOf_8 : decode cX11_placeOf 8 = .ok (.ireturn, 1) := by decide +kernel
theorem dX11_placeOf_9 : decode cX11_placeOf 9 = .ok (.iload_n 0, 1) := by decide +kernel
theorem dX11_placeOf_10 : decode cX11_placeOf 10 = .ok (.sipush 2048, 3) := by decide +kernel
theorem dX11_placeOf_13 : decode cX11_placeOf 13 = .ok (.if_icmp .ge 5, 3) := by decide +kernel
theorem dX11_placeOf_16 : decode cX11_placeOf 16 = .ok (.iconst (-1), 1) := by decide +kernel
theorem dX11_placeOf_17 : decode cX11_placeOf 17 = .ok (.ireturn, 1) := by decide +kernel
theorem dX11_placeOf_18 : decode cX11_placeOf 18 = .ok (.iload_n 0, 1) := by decide +kernel
theorem dX11_placeOf_19 : decode cX11_placeOf 19 = .ok (.sipush 3072, 3) := by decide +kernel
theorem dX11_placeOf_22 : decode cX11_placeOf 22 = .ok (.if_icmp .ge 19, 3) := by decide +kernel
theorem dX11_placeOf_25 : decode cX11_placeOf 25 = .ok (.sipush 1792, 3) := by decide +kernel
theorem dX11_placeOf_28 : decode cX11_placeOf 28 = .ok (.iload_n 1, 1) := by decide +kernel
theorem dX11_placeOf_29 : decode cX11_placeOf 29 = .ok (.sipush 1024, 3) := by decide +kernel
theorem dX11_placeOf_32 : decode cX11_placeOf 32 = .ok (.imul, 1) := by decide +kernel
theorem dX11_placeOf_33 : decode cX11_placeOf 33 = .ok (.iadd, 1) := by decide +kernel
theorem dX11_placeOf_34 : decode cX11_placeOf 34 = .ok (.iload_n 0, 1) := by decide +kernel
theorem dX11_placeOf_35 : decode cX11_placeOf 35 = .ok (.iadd, 1) := by decide +kernel
theorem dX11_placeOf_36 : decode cX11_placeOf 36 = .ok (.sipush 2048, 3) := by decide +kernel
theorem dX11_placeOf_39 : decode cX11_placeOf 39 = .ok (.isub, 1) := by decide +kernel
theorem dX11_placeOf_40 : decode cX11_placeOf 40 = .ok (.ireturn, 1) := by decide +kernel
theorem dX11_placeOf_41 : decode cX11_placeOf 41 = .ok (.sipush 9984, 3) := by decide +kernel
theorem dX11_placeOf_44 : decode cX11_placeOf 44 = .ok (.iload_n 0, 1) := by decide +kernel
theorem dX11_placeOf_45 : decode cX11_placeOf 45 = .ok (.iadd, 1) := by decide +kernel
theorem dX11_placeOf_46 : decode cX11_placeOf 46 = .ok (.sipush 3072, 3) := by decide +kernel
theorem dX11_placeOf_49 : decode cX11_placeOf 49 = .ok (.isub, 1) := by decide +kernel
theorem dX11_placeOf_50 : decode cX11_placeOf 50 = .ok (.ireturn, 1) := by decide +kernel
theorem dX11_hasMode_0 : decode cX11_hasMode 0 = .ok (.iload_n 0, 1) := by decide +kernel
theorem dX11_hasMode_1 : decode cX11_hasMode 1 = .ok (.bipush 24, 2) := by decide +kernel
theorem dX11_hasMode_3 : decode cX11_hasMode 3 = .ok (.if_icmp .lt 19, 3) := by decide +kernel
theorem dX11_hasMode_6 : decode cX11_hasMode 6 = .ok (.iload_n 1, 1) := by decide +kernel
theorem dX11_hasMode_7 : decode cX11_hasMode 7 = .ok (.iconst 3, 1) := by decide +kernel
theorem dX11_hasMode_8 : decode cX11_hasMode 8 = .ok (.if_icmp .lt 12, 3) := by decide +kernel
theorem dX11_hasMode_11 : decode cX11_hasMode 11 = .ok (.iload_n 1, 1) := by decide +kernel
theorem dX11_hasMode_12 : decode cX11_hasMode 12 = .ok (.iconst 5, 1) := by decide +kernel
theorem dX11_hasMode_13 : decode cX11_hasMode 13 = .ok (.if_icmp .gt 7, 3) := by decide +kernel
theorem dX11_hasMode_16 : decode cX11_hasMode 16 = .ok (.iconst 1, 1) := by decide +kernel
theorem dX11_hasMode_17 : decode cX11_hasMode 17 = .ok (.goto 4, 3) := by decide +kernel
theorem dX11_hasMode_20 : decode cX11_hasMode 20 = .ok (.iconst 0, 1) := by decide +kernel
theorem dX11_hasMode_21 : decode cX11_hasMode 21 = .ok (.ireturn, 1) := by decide +kernel
theorem dX11_hasMode_22 : decode cX11_hasMode 22 = .ok (.iload_n 0, 1) := by decide +kernel
theorem dX11_hasMode_23 : decode cX11_hasMode 23 = .ok (.bipush 16, 2) := by decide +kernel
theorem dX11_hasMode_25 : decode cX11_hasMode 25 = .ok (.if_icmp .ge 7, 3) := by decide +kernel
theorem dX11_hasMode_28 : decode cX11_hasMode 28 = .ok (.iconst 1, 1) := by decide +kernel
theorem dX11_hasMode_29 : decode cX11_hasMode 29 = .ok (.goto 4, 3) := by decide +kernel
theorem dX11_hasMode_32 : decode cX11_hasMode 32 = .ok (.iconst 2, 1) := by decide +kernel
theorem dX11_hasMode_33 : decode cX11_hasMode 33 = .ok (.istore_n 2, 1) := by decide +kernel
theorem dX11_hasMode_34 : decode cX11_hasMode 34 = .ok (.iload_n 1, 1) := by decide +kernel
theorem dX11_hasMode_35 : decode cX11_hasMode 35 = .ok (.iload_n 2, 1) := by decide +kernel
theorem dX11_hasMode_36 : decode cX11_hasMode 36 = .ok (.if_icmp .lt 13, 3) := by decide +kernel
theorem dX11_hasMode_39 : decode cX11_hasMode 39 = .ok (.iload_n 1, 1) := by decide +kernel
theorem dX11_hasMode_40 : decode cX11_hasMode 40 = .ok (.bipush 6, 2) := by decide +kernel
theorem dX11_hasMode_42 : decode cX11_hasMode 42 = .ok (.if_icmp .gt 7, 3) := by decide +kernel
theorem dX11_hasMode_45 : decode cX11_hasMode 45 = .ok (.iconst 1, 1) := by decide +kernel
theorem dX11_hasMode_46 : decode cX11_hasMode 46 = .ok (.goto 4, 3) := by decide +kernel
theorem dX11_hasMode_49 : decode cX11_hasMode 49 = .ok (.iconst 0, 1) := by decide +kernel
theorem dX11_hasMode_50 : decode cX11_hasMode 50 = .ok (.ireturn, 1) := by decide +kernel
theorem dX11_lengthOf_0 : decode cX11_lengthOf 0 = .ok (.iload_n 0, 1) := by decide +kernel
theorem dX11_lengthOf_1 : decode cX11_lengthOf 1 = .ok (.iconst 3, 1) := by decide +kernel
theorem dX11_lengthOf_2 : decode cX11_lengthOf 2 = .ok (.ishr, 1) := by decide +kernel
theorem dX11_lengthOf_3 : decode cX11_lengthOf 3 = .ok (.istore_n 1, 1) := by decide +kernel
theorem dX11_lengthOf_4 : decode cX11_lengthOf 4 = .ok (.iload_n 0, 1) := by decide +kernel
theorem dX11_lengthOf_5 : decode cX11_lengthOf 5 = .ok (.bipush 7, 2) := by decide +kernel
theorem dX11_lengthOf_7 : decode cX11_lengthOf 7 = .ok (.iand, 1) := by decide +kernel
theorem dX11_lengthOf_8 : decode cX11_lengthOf 8 = .ok (.istore_n 2, 1) := by decide +kernel
theorem dX11_lengthOf_9 : decode cX11_lengthOf 9 = .ok (.iload_n 1, 1) := by decide +kernel
theorem dX11_lengthOf_10 : decode cX11_lengthOf 10 = .ok (.iconst 4, 1) := by decide +kernel
theorem dX11_lengthOf_11 : decode cX11_lengthOf 11 = .ok (.if_icmp .ge 5, 3) := by decide +kernel
theorem dX11_lengthOf_14 : decode cX11_lengthOf 14 = .ok (.iconst 1, 1) := by decide +kernel
theorem dX11_lengthOf_15 : decode cX11_lengthOf 15 = .ok (.ireturn, 1) := by decide +kernel
theorem dX11_lengthOf_16 : decode cX11_lengthOf 16 = .ok (.iload_n 0, 1) := by decide +kernel
theorem dX11_lengthOf_17 : decode cX11_lengthOf 17 = .ok (.sipush 208, 3) := by decide +kernel
theorem dX11_lengthOf_20 : decode cX11_lengthOf 20 = .ok (.if_icmp .lt 16, 3) := by decide +kernel
theorem dX11_lengthOf_23 : decode cX11_lengthOf 23 = .ok (.iload_n 0, 1) := by decide +kernel
theorem dX11_lengthOf_24 : decode cX11_lengthOf 24 = .ok (.sipush 217, 3) := by decide +kernel
theorem dX11_lengthOf_27 : decode cX11_lengthOf 27 = .ok (.if_icmp .gt 7, 3) := by decide +kernel
theorem dX11_lengthOf_30 : decode cX11_lengthOf 30 = .ok (.iconst 2, 1) := by decide +kernel
theorem dX11_lengthOf_31 : decode cX11_lengthOf 31 = .ok (.goto 4, 3) := by decide +kernel
theorem dX11_lengthOf_34 : decode cX11_lengthOf 34 = .ok (.iconst 0, 1) := by decide +kernel
theorem dX11_lengthOf_35 : decode cX11_lengthOf 35 = .ok (.ireturn, 1) := by decide +kernel
theorem dX11_lengthOf_36 : decode cX11_lengthOf 36 = .ok (.iload_n 1, 1) := by decide +kernel
theorem dX11_lengthOf_37 : decode cX11_lengthOf 37 = .ok (.iload_n 2, 1) := by decide +kernel
theorem dX11_lengthOf_38 : decode cX11_lengthOf 38 = .ok (.invokestatic 419, 3) := by decide +kernel
theorem dX11_lengthOf_41 : decode cX11_lengthOf 41 = .ok (.ifCond .ne 5, 3) := by decide +kernel
theorem dX11_lengthOf_44 : decode cX11_lengthOf 44 = .ok (.iconst 0, 1) := by decide +kernel
theorem dX11_lengthOf_45 : decode cX11_lengthOf 45 = .ok (.ireturn, 1) := by decide +kernel
theorem dX11_lengthOf_46 : decode cX11_lengthOf 46 = .ok (.iload_n 2, 1) := by decide +kernel
theorem dX11_lengthOf_47 : decode cX11_lengthOf 47 = .ok (.iconst 3, 1) := by decide +kernel
theorem dX11_lengthOf_48 : decode cX11_lengthOf 48 = .ok (.if_icmp .eq 8, 3) := by decide +kernel
theorem dX11_lengthOf_51 : decode cX11_lengthOf 51 = .ok (.iload_n 2, 1) := by decide +kernel
theorem dX11_lengthOf_52 : decode cX11_lengthOf 52 = .ok (.iconst 4, 1) := by decide +kernel
theorem dX11_lengthOf_53 : decode cX11_lengthOf 53 = .ok (.if_icmp .ne 7, 3) := by decide +kernel
theorem dX11_lengthOf_56 : decode cX11_lengthOf 56 = .ok (.iconst 3, 1) := by decide +kernel
theorem dX11_lengthOf_57 : decode cX11_lengthOf 57 = .ok (.goto 4, 3) := by decide +kernel
theorem dX11_lengthOf_60 : decode cX11_lengthOf 60 = .ok (.iconst 2, 1) := by decide +kernel
theorem dX11_lengthOf_61 : decode cX11_lengthOf 61 = .ok (.ireturn, 1) := by decide +kernel
theorem dX11_signed_0 : decode cX11_signed 0 = .ok (.iload_n 0, 1) := by decide +kernel
theorem dX11_signed_1 : decode cX11_signed 1 = .ok (.sipush 128, 3) := by decide +kernel
theorem dX11_signed_4 : decode cX11_signed 4 = .ok (.if_icmp .ge 7, 3) := by decide +kernel
theorem dX11_signed_7 : decode cX11_signed 7 = .ok (.iload_n 0, 1) := by decide +kernel
theorem dX11_signed_8 : decode cX11_signed 8 = .ok (.goto 8, 3) := by decide +kernel
theorem dX11_signed_11 : decode cX11_signed 11 = .ok (.iload_n 0, 1) := by decide +kernel
theorem dX11_signed_12 : decode cX11_signed 12 = .ok (.sipush 256, 3) := by decide +kernel
theorem dX11_signed_15 : decode cX11_signed 15 = .ok (.isub, 1) := by decide +kernel
theorem dX11_signed_16 : decode cX11_signed 16 = .ok (.ireturn, 1) := by decide +kernel
theorem dX12_init_0 : decode cX12_init 0 = .ok (.aload_n 0, 1) := by decide +kernel
theorem dX12_init_1 : decode cX12_init 1 = .ok (.invokespecial 3, 3) := by decide +kernel
theorem dX12_init_4 : decode cX12_init 4 = .ok (.aload_n 0, 1) := by decide +kernel
theorem dX12_init_5 : decode cX12_init 5 = .ok (.sipush 16205, 3) := by decide +kernel
theorem dX12_init_8 : decode cX12_init 8 = .ok (.newarray .int, 2) := by decide +kernel
theorem dX12_init_10 : decode cX12_init 10 = .ok (.putfield 9, 3) := by decide +kernel
theorem dX12_init_13 : decode cX12_init 13 = .ok (.aload_n 0, 1) := by decide +kernel
theorem dX12_init_14 : decode cX12_init 14 = .ok (.sipush 200, 3) := by decide +kernel
theorem dX12_init_17 : decode cX12_init 17 = .ok (.anewarray 13, 3) := by decide +kernel
theorem dX12_init_20 : decode cX12_init 20 = .ok (.putfield 14, 3) := by decide +kernel
theorem dX12_init_23 : decode cX12_init 23 = .ok (.aload_n 0, 1) := by decide +kernel
theorem dX12_init_24 : decode cX12_init 24 = .ok (.bipush 64, 2) := by decide +kernel
theorem dX12_init_26 : decode cX12_init 26 = .ok (.newarray .int, 2) := by decide +kernel
theorem dX12_init_28 : decode cX12_init 28 = .ok (.putfield 18, 3) := by decide +kernel
theorem dX12_init_31 : decode cX12_init 31 = .ok (.aload_n 0, 1) := by decide +kernel
theorem dX12_init_32 : decode cX12_init 32 = .ok (.iconst (-1), 1) := by decide +kernel
theorem dX12_init_33 : decode cX12_init 33 = .ok (.putfield 21, 3) := by decide +kernel
theorem dX12_init_36 : decode cX12_init 36 = .ok (.aload_n 0, 1) := by decide +kernel
theorem dX12_init_37 : decode cX12_init 37 = .ok (.bipush 6, 2) := by decide +kernel
theorem dX12_init_39 : decode cX12_init 39 = .ok (.newarray .int, 2) := by decide +kernel
theorem dX12_init_41 : decode cX12_init 41 = .ok (.putfield 25, 3) := by decide +kernel
theorem dX12_init_44 : decode cX12_init 44 = .ok (.aload_n 0, 1) := by decide +kernel
theorem dX12_init_45 : decode cX12_init 45 = .ok (.bipush 6, 2) := by decide +kernel
theorem dX12_init_47 : decode cX12_init 47 = .ok (.newarray .int, 2) := by decide +kernel
theorem dX12_init_49 : decode cX12_init 49 = .ok (.putfield 28, 3) := by decide +kernel
theorem dX12_init_52 : decode cX12_init 52 = .ok (.aload_n 0, 1) := by decide +kernel
theorem dX12_init_53 : decode cX12_init 53 = .ok (.iconst 4, 1) := by decide +kernel
theorem dX12_init_54 : decode cX12_init 54 = .ok (.newarray .int, 2) := by decide +kernel
theorem dX12_init_56 : decode cX12_init 56 = .ok (.putfield 31, 3) := by decide +kernel
theorem dX12_init_59 : decode cX12_init 59 = .ok (.aload_n 0, 1) := by decide +kernel
theorem dX12_init_60 : decode cX12_init 60 = .ok (.iconst 4, 1) := by decide +kernel
theorem dX12_init_61 : decode cX12_init 61 = .ok (.newarray .int, 2) := by decide +kernel
theorem dX12_init_63 : decode cX12_init 63 = .ok (.putfield 34, 3) := by decide +kernel
theorem dX12_init_66 : decode cX12_init 66 = .ok (.aload_n 0, 1) := by decide +kernel
theorem dX12_init_67 : decode cX12_init 67 = .ok (.iconst 4, 1) := by decide +kernel
theorem dX12_init_68 : decode cX12_init 68 = .ok (.newarray .boolean, 2) := by decide +kernel
theorem dX12_init_70 : decode cX12_init 70 = .ok (.putfield 37, 3) := by decide +kernel
theorem dX12_init_73 : decode cX12_init 73 = .ok (.aload_n 0, 1) := by decide +kernel
theorem dX12_init_74 : decode cX12_init 74 = .ok (.iconst 4, 1) := by decide +kernel
theorem dX12_init_75 : decode cX12_init 75 = .ok (.newarray .boolean, 2) := by decide +kernel
theorem dX12_init_77 : decode cX12_init 77 = .ok (.putfield 41, 3) := by decide +kernel
theorem dX12_init_80 : decode cX12_init 80 = .ok (.aload_n 0, 1) := by decide +kernel
theorem dX12_init_81 : decode cX12_init 81 = .ok (.sipush 2000, 3) := by decide +kernel
theorem dX12_init_84 : decode cX12_init 84 = .ok (.newarray .byte, 2) := by decide +kernel
theorem dX12_init_86 : decode cX12_init 86 = .ok (.putfield 44, 3) := by decide +kernel
theorem dX12_init_89 : decode cX12_init 89 = .ok (.aload_n 0, 1) := by decide +kernel
theorem dX12_init_90 : decode cX12_init 90 = .ok (.sipush 2200, 3) := by decide +kernel
theorem dX12_init_93 : decode cX12_init 93 = .ok (.newarray .int, 2) := by decide +kernel
theorem dX12_init_95 : decode cX12_init 95 = .ok (.putfield 48, 3) := by decide +kernel
theorem dX12_init_98 : decode cX12_init 98 = .ok (.aload_n 0, 1) := by decide +kernel
theorem dX12_init_99 : decode cX12_init 99 = .ok (.sipush 2200, 3) := by decide +kernel
theorem dX12_init_102 : decode cX12_init 102 = .ok (.newarray .int, 2) := by decide +kernel
theorem dX12_init_104 : decode cX12_init 104 = .ok (.putfield 51, 3) := by decide +kernel
theorem dX12_init_107 : decode cX12_init 107 = .ok (.aload_n 0, 1) := by decide +kernel
theorem dX12_init_108 : decode cX12_init 108 = .ok (.sipush 2200, 3) := by decide +kernel
theorem dX12_init_111 : decode cX12_init 111 = .ok (.newarray .int, 2) := by decide +kernel
theorem dX12_init_113 : decode cX12_init 113 = .ok (.putfield 54, 3) := by decide +kernel
theorem dX12_init_116 : decode cX12_init 116 = .ok (.aload_n 0, 1) := by decide +kernel
theorem dX12_init_117 : decode cX12_init 117 = .ok (.sipush 2200, 3) := by decide +kernel
theorem dX12_init_120 : decode cX12_init 120 = .ok (.newarray .int, 2) := by decide +kernel
theorem dX12_init_122 : decode cX12_init 122 = .ok (.putfield 57, 3) := by decide +kernel
theorem dX12_init_125 : decode cX12_init 125 = .ok (.aload_n 0, 1) := by decide +kernel
theorem dX12_init_126 : decode cX12_init 126 = .ok (.iconst (-1), 1) := by decide +kernel
theorem dX12_init_127 : decode cX12_init 127 = .ok (.putfield 60, 3) := by decide +kernel
theorem dX12_init_130 : decode cX12_init 130 = .ok (.aload_n 0, 1) := by decide +kernel
theorem dX12_init_131 : decode cX12_init 131 = .ok (.sipush 200, 3) := by decide +kernel
theorem dX12_init_134 : decode cX12_init 134 = .ok (.newarray .int, 2) := by decide +kernel
theorem dX12_init_136 : decode cX12_init 136 = .ok (.putfield 63, 3) := by decide +kernel
theorem dX12_init_139 : decode cX12_init 139 = .ok (.aload_n 0, 1) := by decide +kernel
theorem dX12_init_140 : decode cX12_init 140 = .ok (.sipush 200, 3) := by decide +kernel
theorem dX12_init_143 : decode cX12_init 143 = .ok (.newarray .int, 2) := by decide +kernel
theorem dX12_init_145 : decode cX12_init 145 = .ok (.putfield 66, 3) := by decide +kernel
theorem dX12_init_148 : decode cX12_init 148 = .ok (.aload_n 0, 1) := by decide +kernel
theorem dX12_init_149 : decode cX12_init 149 = .ok (.sipush 130, 3) := by decide +kernel
theorem dX12_init_152 : decode cX12_init 152 = .ok (.newarray .int, 2) := by decide +kernel
theorem dX12_init_154 : decode cX12_init 154 = .ok (.putfield 69, 3) := by decide +kernel
theorem dX12_init_157 : decode cX12_init 157 = .ok (.aload_n 0, 1) := by decide +kernel
theorem dX12_init_158 : decode cX12_init 158 = .ok (.sipush 130, 3) := by decide +kernel
theorem dX12_init_161 : decode cX12_init 161 = .ok (.newarray .boolean, 2) := by decide +kernel
theorem dX12_init_163 : decode cX12_init 163 = .ok (.putfield 72, 3) := by decide +kernel
theorem dX12_init_166 : decode cX12_init 166 = .ok (.aload_n 0, 1) := by decide +kernel
theorem dX12_init_167 : decode cX12_init 167 = .ok (.bipush 8, 2) := by decide +kernel
theorem dX12_init_169 : decode cX12_init 169 = .ok (.newarray .int, 2) := by decide +kernel
theorem dX12_init_171 : decode cX12_init 171 = .ok (.putfield 75, 3) := by decide +kernel
theorem dX12_init_174 : decode cX12_init 174 = .ok (.aload_n 0, 1) := by decide +kernel
theorem dX12_init_175 : decode cX12_init 175 = .ok (.sipush 11008, 3) := by decide +kernel
theorem dX12_init_178 : decode cX12_init 178 = .ok (.newarray .int, 2) := by decide +kernel
theorem dX12_init_180 : decode cX12_init 180 = .ok (.putfield 78, 3) := by decide +kernel
theorem dX12_init_183 : decode cX12_init 183 = .ok (.aload_n 0, 1) := by decide +kernel
theorem dX12_init_184 : decode cX12_init 184 = .ok (.sipush 11008, 3) := by decide +kernel
theorem dX12_init_187 : decode cX12_init 187 = .ok (.newarray .int, 2) := by decide +kernel
theorem dX12_init_189 : decode cX12_init 189 = .ok (.putfield 81, 3) := by decide +kernel
theorem dX12_init_192 : decode cX12_init 192 = .ok (.aload_n 0, 1) := by decide +kernel
theorem dX12_init_193 : decode cX12_init 193 = .ok (.sipush 11008, 3) := by decide +kernel
theorem dX12_init_196 : decode cX12_init 196 = .ok (.newarray .int, 2) := by decide +kernel
theorem dX12_init_198 : decode cX12_init 198 = .ok (.putfield 84, 3) := by decide +kernel
theorem dX12_init_201 : decode cX12_init 201 = .ok (.aload_n 0, 1) := by decide +kernel
theorem dX12_init_202 : decode cX12_init 202 = .ok (.sipush 200, 3) := by decide +kernel
theorem dX12_init_205 : decode cX12_init 205 = .ok (.newarray .int, 2) := by decide +kernel
theorem dX12_init_207 : decode cX12_init 207 = .ok (.putfield 87, 3) := by decide +kernel
theorem dX12_init_210 : decode cX12_init 210 = .ok (.aload_n 0, 1) := by decide +kernel
theorem dX12_init_211 : decode cX12_init 211 = .ok (.invokevirtual 90, 3) := by decide +kernel
theorem dX12_init_214 : decode cX12_init 214 = .ok (.return_, 1) := by decide +kernel
theorem dX12_isIn_0 : decode cX12_isIn 0 = .ok (.iload_n 0, 1) := by decide +kernel
theorem dX12_isIn_1 : decode cX12_isIn 1 = .ok (.iload_n 1, 1) := by decide +kernel
theorem dX12_isIn_2 : decode cX12_isIn 2 = .ok (.if_icmp .lt 12, 3) := by decide +kernel
theorem dX12_isIn_5 : decode cX12_isIn 5 = .ok (.iload_n 0, 1) := by decide +kernel
theorem dX12_isIn_6 : decode cX12_isIn 6 = .ok (.iload_n 2, 1) := by decide +kernel
theorem dX12_isIn_7 : decode cX12_isIn 7 = .ok (.if_icmp .gt 7, 3) := by decide +kernel
theorem dX12_isIn_10 : decode cX12_isIn 10 = .ok (.iconst 1, 1) := by decide +kernel
theorem dX12_isIn_11 : decode cX12_isIn 11 = .ok (.goto 4, 3) := by decide +kernel
theorem dX12_isIn_14 : decode cX12_isIn 14 = .ok (.iconst 0, 1) := by decide +kernel
theorem dX12_isIn_15 : decode cX12_isIn 15 = .ok (.ireturn, 1) := by decide +kernel
theorem dX12_isPort_0 : decode cX12_isPort 0 = .ok (.iload_n 0, 1) := by decide +kernel
theorem dX12_isPort_1 : decode cX12_isPort 1 = .ok (.sipush 1792, 3) := by decide +kernel
theorem dX12_isPort_4 : decode cX12_isPort 4 = .ok (.if_icmp .lt 14, 3) := by decide +kernel
theorem dX12_isPort_7 : decode cX12_isPort 7 = .ok (.iload_n 0, 1) := by decide +kernel
theorem dX12_isPort_8 : decode cX12_isPort 8 = .ok (.sipush 2048, 3) := by decide +kernel
theorem dX12_isPort_11 : decode cX12_isPort 11 = .ok (.if_icmp .ge 7, 3) := by decide +kernel
theorem dX12_isPort_14 : decode cX12_isPort 14 = .ok (.iconst 1, 1) := by decide +kernel
theorem dX12_isPort_15 : decode cX12_isPort 15 = .ok (.goto 4, 3) := by decide +kernel
theorem dX12_isPort_18 : decode cX12_isPort 18 = .ok (.iconst 0, 1) := by decide +kernel
theorem dX12_isPort_19 : decode cX12_isPort 19 = .ok (.ireturn, 1) := by decide +kernel
theorem dX12_place_0 : decode cX12_place 0 = .ok (.iload_n 1, 1) := by decide +kernel
theorem dX12_place_1 : decode cX12_place 1 = .ok (.sipush 1792, 3) := by decide +kernel
theorem dX12_place_4 : decode cX12_place 4 = .ok (.if_icmp .ge 11, 3) := by decide +kernel
theorem dX12_place_7 : decode cX12_place 7 = .ok (.sipush 1101, 3) := by decide +kernel
theorem dX12_place_10 : decode cX12_place 10 = .ok (.iload_n 1, 1) := by decide +kernel
theorem dX12_place_11 : decode cX12_place 11 = .ok (.iadd, 1) := by decide +kernel
theorem dX12_place_12 : decode cX12_place 12 = .ok (.goto 43, 3) := by decide +kernel
theorem dX12_place_15 : decode cX12_place 15 = .ok (.iload_n 1, 1) := by decide +kernel
theorem dX12_place_16 : decode cX12_place 16 = .ok (.sipush 3072, 3) := by decide +kernel
theorem dX12_place_19 : decode cX12_place 19 = .ok (.if_icmp .ge 27, 3) := by decide +kernel
theorem dX12_place_22 : decode cX12_place 22 = .ok (.sipush 2893, 3) := by decide +kernel
theorem dX12_place_25 : decode cX12_place 25 = .ok (.sipush 1024, 3) := by decide +kernel
theorem dX12_place_28 : decode cX12_place 28 = .ok (.aload_n 0, 1) := by decide +kernel
theorem dX12_place_29 : decode cX12_place 29 = .ok (.getfield 9, 3) := by decide +kernel
theorem dX12_place_32 : decode cX12_place 32 = .ok (.bipush 9, 2) := by decide +kernel
theorem dX12_place_34 : decode cX12_place 34 = .ok (.iaload, 1) := by decide +kernel
theorem dX12_place_35 : decode cX12_place 35 = .ok (.imul, 1) := by decide +kernel
theorem dX12_place_36 : decode cX12_place 36 = .ok (.iadd, 1) := by decide +kernel
theorem dX12_place_37 : decode cX12_place 37 = .ok (.iload_n 1, 1) := by decide +kernel
theorem dX12_place_38 : decode cX12_place 38 = .ok (.iadd, 1) := by decide +kernel
theorem dX12_place_39 : decode cX12_place 39 = .ok (.sipush 2048, 3) := by decide +kernel
theorem dX12_place_42 : decode cX12_place 42 = .ok (.isub, 1) := by decide +kernel
theorem dX12_place_43 : decode cX12_place 43 = .ok (.goto 12, 3) := by decide +kernel
theorem dX12_place_46 : decode cX12_place 46 = .ok (.sipush 11085, 3) := by decide +kernel
theorem dX12_place_49 : decode cX12_place 49 = .ok (.iload_n 1, 1) := by decide +kernel
theorem dX12_place_50 : decode cX12_place 50 = .ok (.iadd, 1) := by decide +kernel
theorem dX12_place_51 : decode cX12_place 51 = .ok (.sipush 3072, 3) := by decide +kernel
theorem dX12_place_54 : decode cX12_place 54 = .ok (.isub, 1) := by decide +kernel
theorem dX12_place_55 : decode cX12_place 55 = .ok (.ireturn, 1) := by decide +kernel
theorem dX12_code_0 : decode cX12_code 0 = .ok (.iload_n 1, 1) := by decide +kernel
theorem dX12_code_1 : decode cX12_code 1 = .ok (.sipush 4095, 3) := by decide +kernel
theorem dX12_code_4 : decode cX12_code 4 = .ok (.iand, 1) := by decide +kernel
theorem dX12_code_5 : decode cX12_code 5 = .ok (.invokestatic 117, 3) := by decide +kernel
theorem dX12_code_8 : decode cX12_code 8 = .ok (.ifCond .eq 7, 3) := by decide +kernel
theorem dX12_code_11 : decode cX12_code 11 = .ok (.iconst 0, 1) := by decide +kernel
theorem dX12_code_12 : decode cX12_code 12 = .ok (.goto 17, 3) := by decide +kernel
theorem dX12_code_15 : decode cX12_code 15 = .ok (.aload_n 0, 1) := by decide +kernel
theorem dX12_code_16 : decode cX12_code 16 = .ok (.getfield 9, 3) := by decide +kernel
theorem dX12_code_19 : decode cX12_code 19 = .ok (.aload_n 0, 1) := by decide +kernel
theorem dX12_code_20 : decode cX12_code 20 = .ok (.iload_n 1, 1) := by decide +kernel
theorem dX12_code_21 : decode cX12_code 21 = .ok (.sipush 4095, 3) := by decide +kernel
theorem dX12_code_24 : decode cX12_code 24 = .ok (.iand, 1) := by decide +kernel
theorem dX12_code_25 : decode cX12_code 25 = .ok (.invokevirtual 121, 3) := by decide +kernel
theorem dX12_code_28 : decode cX12_code 28 = .ok (.iaload, 1) := by decide +kernel
theorem dX12_code_29 : decode cX12_code 29 = .ok (.ireturn, 1) := by decide +kernel
theorem dX12_vector_0 : decode cX12_vector 0 = .ok (.aload_n 0, 1) := by decide +kernel
theorem dX12_vector_1 : decode cX12_vector 1 = .ok (.sipush 4080, 3) := by decide +kernel
theorem dX12_vector_4 : decode cX12_vector 4 = .ok (.iconst 2, 1) := by decide +kernel
theorem dX12_vector_5 : decode cX12_vector 5 = .ok (.iload_n 1, 1) := by decide +kernel
theorem dX12_vector_6 : decode cX12_vector 6 = .ok (.imul, 1) := by decide +kernel
theorem dX12_vector_7 : decode cX12_vector 7 = .ok (.iadd, 1) := by decide +kernel
theorem dX12_vector_8 : decode cX12_vector 8 = .ok (.invokevirtual 125, 3) := by decide +kernel
theorem dX12_vector_11 : decode cX12_vector 11 = .ok (.sipush 256, 3) := by decide +kernel
theorem dX12_vector_14 : decode cX12_vector 14 = .ok (.aload_n 0, 1) := by decide +kernel
theorem dX12_vector_15 : decode cX12_vector 15 = .ok (.sipush 4081, 3) := by decide +kernel
theorem dX12_vector_18 : decode cX12_vector 18 = .ok (.iconst 2, 1) := by decide +kernel
theorem dX12_vector_19 : decode cX12_vector 19 = .ok (.iload_n 1, 1) := by decide +kernel
theorem dX12_vector_20 : decode cX12_vector 20 = .ok (.imul, 1) := by decide +kernel
theorem dX12_vector_21 : decode cX12_vector 21 = .ok (.iadd, 1) := by decide +kernel
theorem dX12_vector_22 : decode cX12_vector 22 = .ok (.invokevirtual 125, 3) := by decide +kernel
theorem dX12_vector_25 : decode cX12_vector 25 = .ok (.imul, 1) := by decide +kernel
theorem dX12_vector_26 : decode cX12_vector 26 = .ok (.iadd, 1) := by decide +kernel
theorem dX12_vector_27 : decode cX12_vector 27 = .ok (.sipush 4095, 3) := by decide +kernel
theorem dX12_vector_30 : decode cX12_vector 30 = .ok (.iand, 1) := by decide +kernel
theorem dX12_vector_31 : decode cX12_vector 31 = .ok (.ireturn, 1) := by decide +kernel
theorem dX12_modesFrom_0 : decode cX12_modesFrom 0 = .ok (.iload_n 0, 1) := by decide +kernel
theorem dX12_modesFrom_1 : decode cX12_modesFrom 1 = .ok (.bipush 16, 2) := by decide +kernel
theorem dX12_modesFrom_3 : decode cX12_modesFrom 3 = .ok (.if_icmp .ge 7, 3) := by decide +kernel
theorem dX12_modesFrom_6 : decode cX12_modesFrom 6 = .ok (.iconst 1, 1) := by decide +kernel
theorem dX12_modesFrom_7 : decode cX12_modesFrom 7 = .ok (.goto 14, 3) := by decide +kernel
theorem dX12_modesFrom_10 : decode cX12_modesFrom 10 = .ok (.iload_n 0, 1) := by decide +kernel
theorem dX12_modesFrom_11 : decode cX12_modesFrom 11 = .ok (.bipush 24, 2) := by decide +kernel
theorem dX12_modesFrom_13 : decode cX12_modesFrom 13 = .ok (.if_icmp .ge 7, 3) := by decide +kernel
theorem dX12_modesFrom_16 : decode cX12_modesFrom 16 = .ok (.iconst 2, 1) := by decide +kernel
theorem dX12_modesFrom_17 : decode cX12_modesFrom 17 = .ok (.goto 4, 3) := by decide +kernel
theorem dX12_modesFrom_20 : decode cX12_modesFrom 20 = .ok (.iconst 3, 1) := by decide +kernel
theorem dX12_modesFrom_21 : decode cX12_modesFrom 21 = .ok (.ireturn, 1) := by decide +kernel
theorem dX12_modesTo_0 : decode cX12_modesTo 0 = .ok (.iload_n 0, 1) := by decide +kernel
theorem dX12_modesTo_1 : decode cX12_modesTo 1 = .ok (.bipush 24, 2) := by decide +kernel
theorem dX12_modesTo_3 : decode cX12_modesTo 3 = .ok (.if_icmp .ge 8, 3) := by decide +kernel
theorem dX12_modesTo_6 : decode cX12_modesTo 6 = .ok (.bipush 6, 2) := by decide +kernel
theorem dX12_modesTo_8 : decode cX12_modesTo 8 = .ok (.goto 4, 3) := by decide +kernel
theorem dX12_modesTo_11 : decode cX12_modesTo 11 = .ok (.iconst 5, 1) := by decide +kernel
theorem dX12_modesTo_12 : decode cX12_modesTo 12 = .ok (.ireturn, 1) := by decide +kernel
theorem dX12_isInstruction_0 : decode cX12_isInstruction 0 = .ok (.iload_n 0, 1) := by decide +kernel
theorem dX12_isInstruction_1 : decode cX12_isInstruction 1 = .ok (.bipush 8, 2) := by decide +kernel
theorem dX12_isInstruction_3 : decode cX12_isInstruction 3 = .ok (.idiv, 1) := by decide +kernel
theorem dX12_isInstruction_4 : decode cX12_isInstruction 4 = .ok (.istore_n 1, 1) := by decide +kernel
theorem dX12_isInstruction_5 : decode cX12_isInstruction 5 = .ok (.iload_n 0, 1) := by decide +kernel
theorem dX12_isInstruction_6 : decode cX12_isInstruction 6 = .ok (.bipush 8, 2) := by decide +kernel
theorem dX12_isInstruction_8 : decode cX12_isInstruction 8 = .ok (.irem, 1) := by decide +kernel
theorem dX12_isInstruction_9 : decode cX12_isInstruction 9 = .ok (.istore_n 2, 1) := by decide +kernel
theorem dX12_isInstruction_10 : decode cX12_isInstruction 10 = .ok (.iload_n 1, 1) := by decide +kernel
theorem dX12_isInstruction_11 : decode cX12_isInstruction 11 = .ok (.iconst 4, 1) := by decide +kernel
theorem dX12_isInstruction_12 : decode cX12_isInstruction 12 = .ok (.if_icmp .lt 9, 3) := by decide +kernel
theorem dX12_isInstruction_15 : decode cX12_isInstruction 15 = .ok (.iload_n 1, 1) := by decide +kernel
theorem dX12_isInstruction_16 : decode cX12_isInstruction 16 = .ok (.bipush 26, 2) := by decide +kernel
theorem dX12_isInstruction_18 : decode cX12_isInstruction 18 = .ok (.if_icmp .ne 5, 3) := by decide +kernel
theorem dX12_isInstruction_21 : decode cX12_isInstruction 21 = .ok (.iconst 1, 1) := by decide +kernel
theorem dX12_isInstruction_22 : decode cX12_isInstruction 22 = .ok (.ireturn, 1) := by decide +kernel
theorem dX12_isInstruction_23 : decode cX12_isInstruction 23 = .ok (.iload_n 1, 1) := by decide +kernel
theorem dX12_isInstruction_24 : decode cX12_isInstruction 24 = .ok (.bipush 27, 2) := by decide +kernel
theorem dX12_isInstruction_26 : decode cX12_isInstruction 26 = .ok (.if_icmp .ne 14, 3) := by decide +kernel
theorem dX12_isInstruction_29 : decode cX12_isInstruction 29 = .ok (.iload_n 2, 1) := by decide +kernel
theorem dX12_isInstruction_30 : decode cX12_isInstruction 30 = .ok (.iconst 2, 1) := by decide +kernel
theorem dX12_isInstruction_31 : decode cX12_isInstruction 31 = .ok (.if_icmp .ge 7, 3) := by decide +kernel
theorem dX12_isInstruction_34 : decode cX12_isInstruction 34 = .ok (.iconst 1, 1) := by decide +kernel
theorem dX12_isInstruction_35 : decode cX12_isInstruction 35 = .ok (.goto 4, 3) := by decide +kernel
theorem dX12_isInstruction_38 : decode cX12_isInstruction 38 = .ok (.iconst 0, 1) := by decide +kernel
theorem dX12_isInstruction_39 : decode cX12_isInstruction 39 = .ok (.ireturn, 1) := by decide +kernel
theorem dX12_isInstruction_40 : decode cX12_isInstruction 40 = .ok (.iload_n 1, 1) := by decide +kernel
theorem dX12_isInstruction_41 : decode cX12_isInstruction 41 = .ok (.bipush 26, 2) := by decide +kernel
theorem dX12_isInstruction_43 : decode cX12_isInstruction 43 = .ok (.if_icmp .ge 22, 3) := by decide +kernel
theorem dX12_isInstruction_46 : decode cX12_isInstruction 46 = .ok (.iload_n 2, 1) := by decide +kernel
theorem dX12_isInstruction_47 : decode cX12_isInstruction 47 = .ok (.iload_n 1, 1) := by decide +kernel
theorem dX12_isInstruction_48 : decode cX12_isInstruction 48 = .ok (.invokestatic 182, 3) := by decide +kernel
theorem dX12_isInstruction_51 : decode cX12_isInstruction 51 = .ok (.iload_n 1, 1) := by decide +kernel
theorem dX12_isInstruction_52 : decode cX12_isInstruction 52 = .ok (.invokestatic 185, 3) := by decide +kernel
theorem dX12_isInstruction_55 : decode cX12_isInstruction 55 = .ok (.invokestatic 96, 3) := by decide +kernel
theorem dX12_isInstruction_58 : decode cX12_isInstruction 58 = .ok (.ifCond .eq 7, 3) := by decide +kernel
theorem dX12_isInstruction_61 : decode cX12_isInstruction 61 = .ok (.iconst 1, 1) := by decide +kernel
theorem dX12_isInstruction_62 : decode cX12_isInstruction 62 = .ok (.goto 4, 3) := by decide +kernel
theorem dX12_isInstruction_65 : decode cX12_isInstruction 65 = .ok (.iconst 0, 1) := by decide +kernel
theorem dX12_isInstruction_66 : decode cX12_isInstruction 66 = .ok (.ireturn, 1) := by decide +kernel
theorem dX12_length_0 : decode cX12_length 0 = .ok (.iload_n 0, 1) := by decide +kernel
theorem dX12_length_1 : decode cX12_length 1 = .ok (.bipush 8, 2) := by decide +kernel
theorem dX12_length_3 : decode cX12_length 3 = .ok (.idiv, 1) := by decide +kernel
theorem dX12_length_4 : decode cX12_length 4 = .ok (.istore_n 1, 1) := by decide +kernel
theorem dX12_length_5 : decode cX12_length 5 = .ok (.iload_n 0, 1) := by decide +kernel
theorem dX12_length_6 : decode cX12_length 6 = .ok (.bipush 8, 2) := by decide +kernel
theorem dX12_length_8 : decode cX12_length 8 = .ok (.irem, 1) := by decide +kernel
theorem dX12_length_9 : decode cX12_length 9 = .ok (.istore_n 2, 1) := by decide +kernel
theorem dX12_length_10 : decode cX12_length 10 = .ok (.iload_n 1, 1) := by decide +kernel
theorem dX12_length_11 : decode cX12_length 11 = .ok (.iconst 4, 1) := by decide +kernel
theorem dX12_length_12 : decode cX12_length 12 = .ok (.if_icmp .ge 7, 3) := by decide +kernel
theorem dX12_length_15 : decode cX12_length 15 = .ok (.iconst 1, 1) := by decide +kernel
theorem dX12_length_16 : decode cX12_length 16 = .ok (.goto 24, 3) := by decide +kernel
theorem dX12_length_19 : decode cX12_length 19 = .ok (.iload_n 1, 1) := by decide +kernel
theorem dX12_length_20 : decode cX12_length 20 = .ok (.bipush 25, 2) := by decide +kernel
theorem dX12_length_22 : decode cX12_length 22 = .ok (.if_icmp .gt 13, 3) := by decide +kernel
theorem dX12_length_25 : decode cX12_length 25 = .ok (.iload_n 2, 1) := by decide +kernel
theorem dX12_length_26 : decode cX12_length 26 = .ok (.iconst 3, 1) := by decide +kernel
theorem dX12_length_27 : decode cX12_length 27 = .ok (.if_icmp .lt 8, 3) := by decide +kernel
theorem dX12_length_30 : decode cX12_length 30 = .ok (.iload_n 2, 1) := by decide +kernel
theorem dX12_length_31 : decode cX12_length 31 = .ok (.iconst 4, 1) := by decide +kernel
theorem dX12_length_32 : decode cX12_length 32 = .ok (.if_icmp .le 7, 3) := by decide +kernel
theorem dX12_length_35 : decode cX12_length 35 = .ok (.iconst 2, 1) := by decide +kernel
theorem dX12_length_36 : decode cX12_length 36 = .ok (.goto 4, 3) := by decide +kernel
theorem dX12_length_39 : decode cX12_length 39 = .ok (.iconst 3, 1) := by decide +kernel
theorem dX12_length_40 : decode cX12_length 40 = .ok (.ireturn, 1) := by decide +kernel
