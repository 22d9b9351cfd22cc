theorem dX0_init_0 : decode cX0_init 0 = .ok (.aload_n 0, 1) := by decide +kernel
theorem dX0_init_1 : decode cX0_init 1 = .ok (.invokespecial 3, 3) := by decide +kernel
theorem dX0_init_4 : decode cX0_init 4 = .ok (.aload_n 0, 1) := by decide +kernel
theorem dX0_init_5 : decode cX0_init 5 = .ok (.new 9, 3) := by decide +kernel
theorem dX0_init_8 : decode cX0_init 8 = .ok (.dup, 1) := by decide +kernel
theorem dX0_init_9 : decode cX0_init 9 = .ok (.invokespecial 11, 3) := by decide +kernel
theorem dX0_init_12 : decode cX0_init 12 = .ok (.putfield 12, 3) := by decide +kernel
theorem dX0_init_15 : decode cX0_init 15 = .ok (.aload_n 0, 1) := by decide +kernel
theorem dX0_init_16 : decode cX0_init 16 = .ok (.new 9, 3) := by decide +kernel
theorem dX0_init_19 : decode cX0_init 19 = .ok (.dup, 1) := by decide +kernel
theorem dX0_init_20 : decode cX0_init 20 = .ok (.invokespecial 11, 3) := by decide +kernel
theorem dX0_init_23 : decode cX0_init 23 = .ok (.putfield 18, 3) := by decide +kernel
theorem dX0_init_26 : decode cX0_init 26 = .ok (.aload_n 0, 1) := by decide +kernel
theorem dX0_init_27 : decode cX0_init 27 = .ok (.iconst (-1), 1) := by decide +kernel
theorem dX0_init_28 : decode cX0_init 28 = .ok (.putfield 21, 3) := by decide +kernel
theorem dX0_init_31 : decode cX0_init 31 = .ok (.aload_n 0, 1) := by decide +kernel
theorem dX0_init_32 : decode cX0_init 32 = .ok (.iconst (-1), 1) := by decide +kernel
theorem dX0_init_33 : decode cX0_init 33 = .ok (.putfield 25, 3) := by decide +kernel
theorem dX0_init_36 : decode cX0_init 36 = .ok (.return_, 1) := by decide +kernel
theorem dX1_init_0 : decode cX1_init 0 = .ok (.aload_n 0, 1) := by decide +kernel
theorem dX1_init_1 : decode cX1_init 1 = .ok (.invokespecial 3, 3) := by decide +kernel
theorem dX1_init_4 : decode cX1_init 4 = .ok (.return_, 1) := by decide +kernel
theorem dX2_init_0 : decode cX2_init 0 = .ok (.aload_n 0, 1) := by decide +kernel
theorem dX2_init_1 : decode cX2_init 1 = .ok (.invokespecial 3, 3) := by decide +kernel
theorem dX2_init_4 : decode cX2_init 4 = .ok (.aload_n 0, 1) := by decide +kernel
theorem dX2_init_5 : decode cX2_init 5 = .ok (.sipush 11008, 3) := by decide +kernel
theorem dX2_init_8 : decode cX2_init 8 = .ok (.newarray .int, 2) := by decide +kernel
theorem dX2_init_10 : decode cX2_init 10 = .ok (.putfield 9, 3) := by decide +kernel
theorem dX2_init_13 : decode cX2_init 13 = .ok (.aload_n 0, 1) := by decide +kernel
theorem dX2_init_14 : decode cX2_init 14 = .ok (.sipush 4096, 3) := by decide +kernel
theorem dX2_init_17 : decode cX2_init 17 = .ok (.newarray .int, 2) := by decide +kernel
theorem dX2_init_19 : decode cX2_init 19 = .ok (.putfield 15, 3) := by decide +kernel
theorem dX2_init_22 : decode cX2_init 22 = .ok (.aload_n 0, 1) := by decide +kernel
theorem dX2_init_23 : decode cX2_init 23 = .ok (.bipush 40, 2) := by decide +kernel
theorem dX2_init_25 : decode cX2_init 25 = .ok (.newarray .int, 2) := by decide +kernel
theorem dX2_init_27 : decode cX2_init 27 = .ok (.putfield 18, 3) := by decide +kernel
theorem dX2_init_30 : decode cX2_init 30 = .ok (.aload_n 0, 1) := by decide +kernel
theorem dX2_init_31 : decode cX2_init 31 = .ok (.bipush 8, 2) := by decide +kernel
theorem dX2_init_33 : decode cX2_init 33 = .ok (.newarray .int, 2) := by decide +kernel
theorem dX2_init_35 : decode cX2_init 35 = .ok (.putfield 21, 3) := by decide +kernel
theorem dX2_init_38 : decode cX2_init 38 = .ok (.aload_n 0, 1) := by decide +kernel
theorem dX2_init_39 : decode cX2_init 39 = .ok (.new 24, 3) := by decide +kernel
theorem dX2_init_42 : decode cX2_init 42 = .ok (.dup, 1) := by decide +kernel
theorem dX2_init_43 : decode cX2_init 43 = .ok (.invokespecial 26, 3) := by decide +kernel
theorem dX2_init_46 : decode cX2_init 46 = .ok (.putfield 27, 3) := by decide +kernel
theorem dX2_init_49 : decode cX2_init 49 = .ok (.return_, 1) := by decide +kernel
theorem dX2_restart_0 : decode cX2_restart 0 = .ok (.aload_n 0, 1) := by decide +kernel
theorem dX2_restart_1 : decode cX2_restart 1 = .ok (.getfield 15, 3) := by decide +kernel
theorem dX2_restart_4 : decode cX2_restart 4 = .ok (.iconst 0, 1) := by decide +kernel
theorem dX2_restart_5 : decode cX2_restart 5 = .ok (.invokestatic 31, 3) := by decide +kernel
theorem dX2_restart_8 : decode cX2_restart 8 = .ok (.aload_n 0, 1) := by decide +kernel
theorem dX2_restart_9 : decode cX2_restart 9 = .ok (.getfield 27, 3) := by decide +kernel
theorem dX2_restart_12 : decode cX2_restart 12 = .ok (.invokevirtual 37, 3) := by decide +kernel
theorem dX2_restart_15 : decode cX2_restart 15 = .ok (.aload_n 0, 1) := by decide +kernel
theorem dX2_restart_16 : decode cX2_restart 16 = .ok (.iconst 0, 1) := by decide +kernel
theorem dX2_restart_17 : decode cX2_restart 17 = .ok (.putfield 40, 3) := by decide +kernel
theorem dX2_restart_20 : decode cX2_restart 20 = .ok (.aload_n 0, 1) := by decide +kernel
theorem dX2_restart_21 : decode cX2_restart 21 = .ok (.iconst 0, 1) := by decide +kernel
theorem dX2_restart_22 : decode cX2_restart 22 = .ok (.putfield 44, 3) := by decide +kernel
theorem dX2_restart_25 : decode cX2_restart 25 = .ok (.aload_n 0, 1) := by decide +kernel
theorem dX2_restart_26 : decode cX2_restart 26 = .ok (.sipush 255, 3) := by decide +kernel
theorem dX2_restart_29 : decode cX2_restart 29 = .ok (.putfield 47, 3) := by decide +kernel
theorem dX2_restart_32 : decode cX2_restart 32 = .ok (.aload_n 0, 1) := by decide +kernel
theorem dX2_restart_33 : decode cX2_restart 33 = .ok (.iconst 4, 1) := by decide +kernel
theorem dX2_restart_34 : decode cX2_restart 34 = .ok (.putfield 50, 3) := by decide +kernel
theorem dX2_restart_37 : decode cX2_restart 37 = .ok (.aload_n 0, 1) := by decide +kernel
theorem dX2_restart_38 : decode cX2_restart 38 = .ok (.aload_n 0, 1) := by decide +kernel
theorem dX2_restart_39 : decode cX2_restart 39 = .ok (.iconst 0, 1) := by decide +kernel
theorem dX2_restart_40 : decode cX2_restart 40 = .ok (.invokevirtual 53, 3) := by decide +kernel
theorem dX2_restart_43 : decode cX2_restart 43 = .ok (.putfield 57, 3) := by decide +kernel
theorem dX2_restart_46 : decode cX2_restart 46 = .ok (.aload_n 0, 1) := by decide +kernel
theorem dX2_restart_47 : decode cX2_restart 47 = .ok (.iconst 0, 1) := by decide +kernel
theorem dX2_restart_48 : decode cX2_restart 48 = .ok (.putfield 60, 3) := by decide +kernel
theorem dX2_restart_51 : decode cX2_restart 51 = .ok (.aload_n 0, 1) := by decide +kernel
theorem dX2_restart_52 : decode cX2_restart 52 = .ok (.iconst 0, 1) := by decide +kernel
theorem dX2_restart_53 : decode cX2_restart 53 = .ok (.putfield 63, 3) := by decide +kernel
theorem dX2_restart_56 : decode cX2_restart 56 = .ok (.aload_n 0, 1) := by decide +kernel
theorem dX2_restart_57 : decode cX2_restart 57 = .ok (.iconst 0, 1) := by decide +kernel
theorem dX2_restart_58 : decode cX2_restart 58 = .ok (.putfield 66, 3) := by decide +kernel
theorem dX2_restart_61 : decode cX2_restart 61 = .ok (.aload_n 0, 1) := by decide +kernel
theorem dX2_restart_62 : decode cX2_restart 62 = .ok (.iconst 0, 1) := by decide +kernel
theorem dX2_restart_63 : decode cX2_restart 63 = .ok (.putfield 69, 3) := by decide +kernel
theorem dX2_restart_66 : decode cX2_restart 66 = .ok (.aload_n 0, 1) := by decide +kernel
theorem dX2_restart_67 : decode cX2_restart 67 = .ok (.iconst 0, 1) := by decide +kernel
theorem dX2_restart_68 : decode cX2_restart 68 = .ok (.putfield 72, 3) := by decide +kernel
theorem dX2_restart_71 : decode cX2_restart 71 = .ok (.aload_n 0, 1) := by decide +kernel
theorem dX2_restart_72 : decode cX2_restart 72 = .ok (.iconst 0, 1) := by decide +kernel
theorem dX2_restart_73 : decode cX2_restart 73 = .ok (.putfield 75, 3) := by decide +kernel
theorem dX2_restart_76 : decode cX2_restart 76 = .ok (.return_, 1) := by decide +kernel
theorem dX2_shown_0 : decode cX2_shown 0 = .ok (.aload_n 0, 1) := by decide +kernel
theorem dX2_shown_1 : decode cX2_shown 1 = .ok (.getfield 9, 3) := by decide +kernel
theorem dX2_shown_4 : decode cX2_shown 4 = .ok (.iload_n 1, 1) := by decide +kernel
theorem dX2_shown_5 : decode cX2_shown 5 = .ok (.sipush 4095, 3) := by decide +kernel
theorem dX2_shown_8 : decode cX2_shown 8 = .ok (.iand, 1) := by decide +kernel
theorem dX2_shown_9 : decode cX2_shown 9 = .ok (.aload_n 0, 1) := by decide +kernel
theorem dX2_shown_10 : decode cX2_shown 10 = .ok (.getfield 27, 3) := by decide +kernel
theorem dX2_shown_13 : decode cX2_shown 13 = .ok (.getfield 89, 3) := by decide +kernel
theorem dX2_shown_16 : decode cX2_shown 16 = .ok (.invokestatic 92, 3) := by decide +kernel
theorem dX2_shown_19 : decode cX2_shown 19 = .ok (.invokestatic 96, 3) := by decide +kernel
theorem dX2_shown_22 : decode cX2_shown 22 = .ok (.ireturn, 1) := by decide +kernel
theorem dX2_wordAt_0 : decode cX2_wordAt 0 = .ok (.aload_n 0, 1) := by decide +kernel
theorem dX2_wordAt_1 : decode cX2_wordAt 1 = .ok (.iload_n 1, 1) := by decide +kernel
theorem dX2_wordAt_2 : decode cX2_wordAt 2 = .ok (.invokevirtual 100, 3) := by decide +kernel
theorem dX2_wordAt_5 : decode cX2_wordAt 5 = .ok (.sipush 256, 3) := by decide +kernel
theorem dX2_wordAt_8 : decode cX2_wordAt 8 = .ok (.aload_n 0, 1) := by decide +kernel
theorem dX2_wordAt_9 : decode cX2_wordAt 9 = .ok (.iload_n 1, 1) := by decide +kernel
theorem dX2_wordAt_10 : decode cX2_wordAt 10 = .ok (.iconst 1, 1) := by decide +kernel
theorem dX2_wordAt_11 : decode cX2_wordAt 11 = .ok (.iadd, 1) := by decide +kernel
theorem dX2_wordAt_12 : decode cX2_wordAt 12 = .ok (.invokevirtual 100, 3) := by decide +kernel
theorem dX2_wordAt_15 : decode cX2_wordAt 15 = .ok (.imul, 1) := by decide +kernel
theorem dX2_wordAt_16 : decode cX2_wordAt 16 = .ok (.iadd, 1) := by decide +kernel
theorem dX2_wordAt_17 : decode cX2_wordAt 17 = .ok (.ireturn, 1) := by decide +kernel
theorem dX2_vector_0 : decode cX2_vector 0 = .ok (.sipush 10992, 3) := by decide +kernel
theorem dX2_vector_3 : decode cX2_vector 3 = .ok (.iconst 2, 1) := by decide +kernel
theorem dX2_vector_4 : decode cX2_vector 4 = .ok (.iload_n 1, 1) := by decide +kernel
theorem dX2_vector_5 : decode cX2_vector 5 = .ok (.imul, 1) := by decide +kernel
theorem dX2_vector_6 : decode cX2_vector 6 = .ok (.iadd, 1) := by decide +kernel
theorem dX2_vector_7 : decode cX2_vector 7 = .ok (.istore_n 2, 1) := by decide +kernel
theorem dX2_vector_8 : decode cX2_vector 8 = .ok (.aload_n 0, 1) := by decide +kernel
theorem dX2_vector_9 : decode cX2_vector 9 = .ok (.getfield 9, 3) := by decide +kernel
theorem dX2_vector_12 : decode cX2_vector 12 = .ok (.iload_n 2, 1) := by decide +kernel
theorem dX2_vector_13 : decode cX2_vector 13 = .ok (.invokestatic 96, 3) := by decide +kernel
theorem dX2_vector_16 : decode cX2_vector 16 = .ok (.sipush 256, 3) := by decide +kernel
theorem dX2_vector_19 : decode cX2_vector 19 = .ok (.aload_n 0, 1) := by decide +kernel
theorem dX2_vector_20 : decode cX2_vector 20 = .ok (.getfield 9, 3) := by decide +kernel
theorem dX2_vector_23 : decode cX2_vector 23 = .ok (.iload_n 2, 1) := by decide +kernel
theorem dX2_vector_24 : decode cX2_vector 24 = .ok (.iconst 1, 1) := by decide +kernel
theorem dX2_vector_25 : decode cX2_vector 25 = .ok (.iadd, 1) := by decide +kernel
theorem dX2_vector_26 : decode cX2_vector 26 = .ok (.invokestatic 96, 3) := by decide +kernel
theorem dX2_vector_29 : decode cX2_vector 29 = .ok (.imul, 1) := by decide +kernel
theorem dX2_vector_30 : decode cX2_vector 30 = .ok (.iadd, 1) := by decide +kernel
theorem dX2_vector_31 : decode cX2_vector 31 = .ok (.sipush 4095, 3) := by decide +kernel
theorem dX2_vector_34 : decode cX2_vector 34 = .ok (.iand, 1) := by decide +kernel
theorem dX2_vector_35 : decode cX2_vector 35 = .ok (.ireturn, 1) := by decide +kernel
theorem dX2_operand_0 : decode cX2_operand 0 = .ok (.aload_n 0, 1) := by decide +kernel
theorem dX2_operand_1 : decode cX2_operand 1 = .ok (.iload_n 1, 1) := by decide +kernel
theorem dX2_operand_2 : decode cX2_operand 2 = .ok (.invokevirtual 100, 3) := by decide +kernel
theorem dX2_operand_5 : decode cX2_operand 5 = .ok (.istore_n 2, 1) := by decide +kernel
theorem dX2_operand_6 : decode cX2_operand 6 = .ok (.iload_n 2, 1) := by decide +kernel
theorem dX2_operand_7 : decode cX2_operand 7 = .ok (.invokestatic 103, 3) := by decide +kernel
theorem dX2_operand_10 : decode cX2_operand 10 = .ok (.istore_n 3, 1) := by decide +kernel
theorem dX2_operand_11 : decode cX2_operand 11 = .ok (.iload_n 3, 1) := by decide +kernel
theorem dX2_operand_12 : decode cX2_operand 12 = .ok (.iconst 2, 1) := by decide +kernel
theorem dX2_operand_13 : decode cX2_operand 13 = .ok (.if_icmp .ge 5, 3) := by decide +kernel
theorem dX2_operand_16 : decode cX2_operand 16 = .ok (.iconst (-1), 1) := by decide +kernel
theorem dX2_operand_17 : decode cX2_operand 17 = .ok (.ireturn, 1) := by decide +kernel
theorem dX2_operand_18 : decode cX2_operand 18 = .ok (.iload_n 2, 1) := by decide +kernel
theorem dX2_operand_19 : decode cX2_operand 19 = .ok (.sipush 208, 3) := by decide +kernel
theorem dX2_operand_22 : decode cX2_operand 22 = .ok (.if_icmp .lt 22, 3) := by decide +kernel
theorem dX2_operand_25 : decode cX2_operand 25 = .ok (.iload_n 1, 1) := by decide +kernel
theorem dX2_operand_26 : decode cX2_operand 26 = .ok (.iconst 2, 1) := by decide +kernel
theorem dX2_operand_27 : decode cX2_operand 27 = .ok (.iadd, 1) := by decide +kernel
theorem dX2_operand_28 : decode cX2_operand 28 = .ok (.aload_n 0, 1) := by decide +kernel
theorem dX2_operand_29 : decode cX2_operand 29 = .ok (.iload_n 1, 1) := by decide +kernel
theorem dX2_operand_30 : decode cX2_operand 30 = .ok (.iconst 1, 1) := by decide +kernel
theorem dX2_operand_31 : decode cX2_operand 31 = .ok (.iadd, 1) := by decide +kernel
theorem dX2_operand_32 : decode cX2_operand 32 = .ok (.invokevirtual 100, 3) := by decide +kernel
theorem dX2_operand_35 : decode cX2_operand 35 = .ok (.invokestatic 106, 3) := by decide +kernel
theorem dX2_operand_38 : decode cX2_operand 38 = .ok (.iadd, 1) := by decide +kernel
theorem dX2_operand_39 : decode cX2_operand 39 = .ok (.sipush 4095, 3) := by decide +kernel
theorem dX2_operand_42 : decode cX2_operand 42 = .ok (.iand, 1) := by decide +kernel
theorem dX2_operand_43 : decode cX2_operand 43 = .ok (.ireturn, 1) := by decide +kernel
theorem dX2_operand_44 : decode cX2_operand 44 = .ok (.iload_n 3, 1) := by decide +kernel
theorem dX2_operand_45 : decode cX2_operand 45 = .ok (.iconst 2, 1) := by decide +kernel
theorem dX2_operand_46 : decode cX2_operand 46 = .ok (.if_icmp .ne 13, 3) := by decide +kernel
theorem dX2_operand_49 : decode cX2_operand 49 = .ok (.aload_n 0, 1) := by decide +kernel
theorem dX2_operand_50 : decode cX2_operand 50 = .ok (.iload_n 1, 1) := by decide +kernel
theorem dX2_operand_51 : decode cX2_operand 51 = .ok (.iconst 1, 1) := by decide +kernel
theorem dX2_operand_52 : decode cX2_operand 52 = .ok (.iadd, 1) := by decide +kernel
theorem dX2_operand_53 : decode cX2_operand 53 = .ok (.invokevirtual 100, 3) := by decide +kernel
theorem dX2_operand_56 : decode cX2_operand 56 = .ok (.goto 10, 3) := by decide +kernel
theorem dX2_operand_59 : decode cX2_operand 59 = .ok (.aload_n 0, 1) := by decide +kernel
theorem dX2_operand_60 : decode cX2_operand 60 = .ok (.iload_n 1, 1) := by decide +kernel
theorem dX2_operand_61 : decode cX2_operand 61 = .ok (.iconst 1, 1) := by decide +kernel
theorem dX2_operand_62 : decode cX2_operand 62 = .ok (.iadd, 1) := by decide +kernel
theorem dX2_operand_63 : decode cX2_operand 63 = .ok (.invokevirtual 109, 3) := by decide +kernel
theorem dX2_operand_66 : decode cX2_operand 66 = .ok (.ireturn, 1) := by decide +kernel
theorem dX3_init_0 : decode cX3_init 0 = .ok (.aload_n 0, 1) := by decide +kernel
theorem dX3_init_1 : decode cX3_init 1 = .ok (.invokespecial 3, 3) := by decide +kernel
theorem dX3_init_4 : decode cX3_init 4 = .ok (.aload_n 0, 1) := by decide +kernel
theorem dX3_init_5 : decode cX3_init 5 = .ok (.bipush 120, 2) := by decide +kernel
theorem dX3_init_7 : decode cX3_init 7 = .ok (.newarray .long, 2) := by decide +kernel
theorem dX3_init_9 : decode cX3_init 9 = .ok (.putfield 9, 3) := by decide +kernel
theorem dX3_init_12 : decode cX3_init 12 = .ok (.aload_n 0, 1) := by decide +kernel
theorem dX3_init_13 : decode cX3_init 13 = .ok (.bipush 120, 2) := by decide +kernel
theorem dX3_init_15 : decode cX3_init 15 = .ok (.newarray .int, 2) := by decide +kernel
theorem dX3_init_17 : decode cX3_init 17 = .ok (.putfield 15, 3) := by decide +kernel
theorem dX3_init_20 : decode cX3_init 20 = .ok (.aload_n 0, 1) := by decide +kernel
theorem dX3_init_21 : decode cX3_init 21 = .ok (.bipush 120, 2) := by decide +kernel
theorem dX3_init_23 : decode cX3_init 23 = .ok (.newarray .int, 2) := by decide +kernel
theorem dX3_init_25 : decode cX3_init 25 = .ok (.putfield 19, 3) := by decide +kernel
theorem dX3_init_28 : decode cX3_init 28 = .ok (.return_, 1) := by decide +kernel
