theorem dX11_setWatch_69 : decode cX11_setWatch 69 = .ok (.iload 4, 2) := by decide +kernel
theorem dX11_setWatch_71 : decode cX11_setWatch 71 = .ok (.invokevirtual 303, 3) := by decide +kernel
theorem dX11_setWatch_74 : decode cX11_setWatch 74 = .ok (.aload_n 0, 1) := by decide +kernel
theorem dX11_setWatch_75 : decode cX11_setWatch 75 = .ok (.getfield 70, 3) := by decide +kernel
theorem dX11_setWatch_78 : decode cX11_setWatch 78 = .ok (.getfield 298, 3) := by decide +kernel
theorem dX11_setWatch_81 : decode cX11_setWatch 81 = .ok (.ireturn, 1) := by decide +kernel
theorem dX11_clearWatches_0 : decode cX11_clearWatches 0 = .ok (.aload_n 0, 1) := by decide +kernel
theorem dX11_clearWatches_1 : decode cX11_clearWatches 1 = .ok (.getfield 70, 3) := by decide +kernel
theorem dX11_clearWatches_4 : decode cX11_clearWatches 4 = .ok (.getfield 298, 3) := by decide +kernel
theorem dX11_clearWatches_7 : decode cX11_clearWatches 7 = .ok (.istore_n 1, 1) := by decide +kernel
theorem dX11_clearWatches_8 : decode cX11_clearWatches 8 = .ok (.aload_n 0, 1) := by decide +kernel
theorem dX11_clearWatches_9 : decode cX11_clearWatches 9 = .ok (.getfield 70, 3) := by decide +kernel
theorem dX11_clearWatches_12 : decode cX11_clearWatches 12 = .ok (.iconst 0, 1) := by decide +kernel
theorem dX11_clearWatches_13 : decode cX11_clearWatches 13 = .ok (.putfield 298, 3) := by decide +kernel
theorem dX11_clearWatches_16 : decode cX11_clearWatches 16 = .ok (.iload_n 1, 1) := by decide +kernel
theorem dX11_clearWatches_17 : decode cX11_clearWatches 17 = .ok (.ireturn, 1) := by decide +kernel
theorem dX11_goOn_0 : decode cX11_goOn 0 = .ok (.iconst 0, 1) := by decide +kernel
theorem dX11_goOn_1 : decode cX11_goOn 1 = .ok (.istore_n 3, 1) := by decide +kernel
theorem dX11_goOn_2 : decode cX11_goOn 2 = .ok (.aload_n 0, 1) := by decide +kernel
theorem dX11_goOn_3 : decode cX11_goOn 3 = .ok (.getfield 53, 3) := by decide +kernel
theorem dX11_goOn_6 : decode cX11_goOn 6 = .ok (.invokevirtual 240, 3) := by decide +kernel
theorem dX11_goOn_9 : decode cX11_goOn 9 = .ok (.istore 4, 2) := by decide +kernel
theorem dX11_goOn_11 : decode cX11_goOn 11 = .ok (.iconst 0, 1) := by decide +kernel
theorem dX11_goOn_12 : decode cX11_goOn 12 = .ok (.istore 5, 2) := by decide +kernel
theorem dX11_goOn_14 : decode cX11_goOn 14 = .ok (.iload 5, 2) := by decide +kernel
theorem dX11_goOn_16 : decode cX11_goOn 16 = .ok (.ldc_w 307, 3) := by decide +kernel
theorem dX11_goOn_19 : decode cX11_goOn 19 = .ok (.if_icmp .ge 52, 3) := by decide +kernel
theorem dX11_goOn_22 : decode cX11_goOn 22 = .ok (.iload 4, 2) := by decide +kernel
theorem dX11_goOn_24 : decode cX11_goOn 24 = .ok (.ifCond .ne 47, 3) := by decide +kernel
theorem dX11_goOn_27 : decode cX11_goOn 27 = .ok (.aload_n 0, 1) := by decide +kernel
theorem dX11_goOn_28 : decode cX11_goOn 28 = .ok (.getfield 63, 3) := by decide +kernel
theorem dX11_goOn_31 : decode cX11_goOn 31 = .ok (.aload_n 0, 1) := by decide +kernel
theorem dX11_goOn_32 : decode cX11_goOn 32 = .ok (.getfield 53, 3) := by decide +kernel
theorem dX11_goOn_35 : decode cX11_goOn 35 = .ok (.invokevirtual 243, 3) := by decide +kernel
theorem dX11_goOn_38 : decode cX11_goOn 38 = .ok (.iload_n 3, 1) := by decide +kernel
theorem dX11_goOn_39 : decode cX11_goOn 39 = .ok (.aload_n 0, 1) := by decide +kernel
theorem dX11_goOn_40 : decode cX11_goOn 40 = .ok (.getfield 53, 3) := by decide +kernel
theorem dX11_goOn_43 : decode cX11_goOn 43 = .ok (.invokevirtual 247, 3) := by decide +kernel
theorem dX11_goOn_46 : decode cX11_goOn 46 = .ok (.iadd, 1) := by decide +kernel
theorem dX11_goOn_47 : decode cX11_goOn 47 = .ok (.istore_n 3, 1) := by decide +kernel
theorem dX11_goOn_48 : decode cX11_goOn 48 = .ok (.aload_n 0, 1) := by decide +kernel
theorem dX11_goOn_49 : decode cX11_goOn 49 = .ok (.iload_n 3, 1) := by decide +kernel
theorem dX11_goOn_50 : decode cX11_goOn 50 = .ok (.iload_n 1, 1) := by decide +kernel
theorem dX11_goOn_51 : decode cX11_goOn 51 = .ok (.if_icmp .lt 7, 3) := by decide +kernel
theorem dX11_goOn_54 : decode cX11_goOn 54 = .ok (.iconst 1, 1) := by decide +kernel
theorem dX11_goOn_55 : decode cX11_goOn 55 = .ok (.goto 4, 3) := by decide +kernel
theorem dX11_goOn_58 : decode cX11_goOn 58 = .ok (.iconst 0, 1) := by decide +kernel
theorem dX11_goOn_59 : decode cX11_goOn 59 = .ok (.iload_n 2, 1) := by decide +kernel
theorem dX11_goOn_60 : decode cX11_goOn 60 = .ok (.invokevirtual 308, 3) := by decide +kernel
theorem dX11_goOn_63 : decode cX11_goOn 63 = .ok (.istore 4, 2) := by decide +kernel
theorem dX11_goOn_65 : decode cX11_goOn 65 = .ok (.iinc 5 1, 3) := by decide +kernel
theorem dX11_goOn_68 : decode cX11_goOn 68 = .ok (.goto (-54), 3) := by decide +kernel
theorem dX11_goOn_71 : decode cX11_goOn 71 = .ok (.aload_n 0, 1) := by decide +kernel
theorem dX11_goOn_72 : decode cX11_goOn 72 = .ok (.getfield 70, 3) := by decide +kernel
theorem dX11_goOn_75 : decode cX11_goOn 75 = .ok (.iload 4, 2) := by decide +kernel
theorem dX11_goOn_77 : decode cX11_goOn 77 = .ok (.putfield 198, 3) := by decide +kernel
theorem dX11_goOn_80 : decode cX11_goOn 80 = .ok (.iload_n 3, 1) := by decide +kernel
theorem dX11_goOn_81 : decode cX11_goOn 81 = .ok (.ireturn, 1) := by decide +kernel
theorem dX11_reasonToStop_0 : decode cX11_reasonToStop 0 = .ok (.aload_n 0, 1) := by decide +kernel
theorem dX11_reasonToStop_1 : decode cX11_reasonToStop 1 = .ok (.getfield 53, 3) := by decide +kernel
theorem dX11_reasonToStop_4 : decode cX11_reasonToStop 4 = .ok (.invokevirtual 240, 3) := by decide +kernel
theorem dX11_reasonToStop_7 : decode cX11_reasonToStop 7 = .ok (.istore_n 3, 1) := by decide +kernel
theorem dX11_reasonToStop_8 : decode cX11_reasonToStop 8 = .ok (.iload_n 3, 1) := by decide +kernel
theorem dX11_reasonToStop_9 : decode cX11_reasonToStop 9 = .ok (.ifCond .eq 5, 3) := by decide +kernel
theorem dX11_reasonToStop_12 : decode cX11_reasonToStop 12 = .ok (.iload_n 3, 1) := by decide +kernel
theorem dX11_reasonToStop_13 : decode cX11_reasonToStop 13 = .ok (.ireturn, 1) := by decide +kernel
theorem dX11_reasonToStop_14 : decode cX11_reasonToStop 14 = .ok (.aload_n 0, 1) := by decide +kernel
theorem dX11_reasonToStop_15 : decode cX11_reasonToStop 15 = .ok (.getfield 53, 3) := by decide +kernel
theorem dX11_reasonToStop_18 : decode cX11_reasonToStop 18 = .ok (.getfield 265, 3) := by decide +kernel
theorem dX11_reasonToStop_21 : decode cX11_reasonToStop 21 = .ok (.iload_n 2, 1) := by decide +kernel
theorem dX11_reasonToStop_22 : decode cX11_reasonToStop 22 = .ok (.if_icmp .gt 6, 3) := by decide +kernel
theorem dX11_reasonToStop_25 : decode cX11_reasonToStop 25 = .ok (.bipush 6, 2) := by decide +kernel
theorem dX11_reasonToStop_27 : decode cX11_reasonToStop 27 = .ok (.ireturn, 1) := by decide +kernel
theorem dX11_reasonToStop_28 : decode cX11_reasonToStop 28 = .ok (.aload_n 0, 1) := by decide +kernel
theorem dX11_reasonToStop_29 : decode cX11_reasonToStop 29 = .ok (.getfield 70, 3) := by decide +kernel
theorem dX11_reasonToStop_32 : decode cX11_reasonToStop 32 = .ok (.aload_n 0, 1) := by decide +kernel
theorem dX11_reasonToStop_33 : decode cX11_reasonToStop 33 = .ok (.getfield 53, 3) := by decide +kernel
theorem dX11_reasonToStop_36 : decode cX11_reasonToStop 36 = .ok (.invokevirtual 312, 3) := by decide +kernel
theorem dX11_reasonToStop_39 : decode cX11_reasonToStop 39 = .ok (.ifCond .eq 5, 3) := by decide +kernel
theorem dX11_reasonToStop_42 : decode cX11_reasonToStop 42 = .ok (.iconst 3, 1) := by decide +kernel
theorem dX11_reasonToStop_43 : decode cX11_reasonToStop 43 = .ok (.ireturn, 1) := by decide +kernel
theorem dX11_reasonToStop_44 : decode cX11_reasonToStop 44 = .ok (.iload_n 1, 1) := by decide +kernel
theorem dX11_reasonToStop_45 : decode cX11_reasonToStop 45 = .ok (.ifCond .eq 5, 3) := by decide +kernel
theorem dX11_reasonToStop_48 : decode cX11_reasonToStop 48 = .ok (.iconst 1, 1) := by decide +kernel
theorem dX11_reasonToStop_49 : decode cX11_reasonToStop 49 = .ok (.ireturn, 1) := by decide +kernel
theorem dX11_reasonToStop_50 : decode cX11_reasonToStop 50 = .ok (.aload_n 0, 1) := by decide +kernel
theorem dX11_reasonToStop_51 : decode cX11_reasonToStop 51 = .ok (.getfield 53, 3) := by decide +kernel
theorem dX11_reasonToStop_54 : decode cX11_reasonToStop 54 = .ok (.invokevirtual 258, 3) := by decide +kernel
theorem dX11_reasonToStop_57 : decode cX11_reasonToStop 57 = .ok (.ifCond .eq 24, 3) := by decide +kernel
theorem dX11_reasonToStop_60 : decode cX11_reasonToStop 60 = .ok (.aload_n 0, 1) := by decide +kernel
theorem dX11_reasonToStop_61 : decode cX11_reasonToStop 61 = .ok (.getfield 70, 3) := by decide +kernel
theorem dX11_reasonToStop_64 : decode cX11_reasonToStop 64 = .ok (.aload_n 0, 1) := by decide +kernel
theorem dX11_reasonToStop_65 : decode cX11_reasonToStop 65 = .ok (.getfield 53, 3) := by decide +kernel
theorem dX11_reasonToStop_68 : decode cX11_reasonToStop 68 = .ok (.getfield 201, 3) := by decide +kernel
theorem dX11_reasonToStop_71 : decode cX11_reasonToStop 71 = .ok (.invokevirtual 316, 3) := by decide +kernel
theorem dX11_reasonToStop_74 : decode cX11_reasonToStop 74 = .ok (.ifCond .eq 7, 3) := by decide +kernel
theorem dX11_reasonToStop_77 : decode cX11_reasonToStop 77 = .ok (.iconst 2, 1) := by decide +kernel
theorem dX11_reasonToStop_78 : decode cX11_reasonToStop 78 = .ok (.goto 4, 3) := by decide +kernel
theorem dX11_reasonToStop_81 : decode cX11_reasonToStop 81 = .ok (.iconst 0, 1) := by decide +kernel
theorem dX11_reasonToStop_82 : decode cX11_reasonToStop 82 = .ok (.ireturn, 1) := by decide +kernel
theorem dX11_a_0 : decode cX11_a 0 = .ok (.aload_n 0, 1) := by decide +kernel
theorem dX11_a_1 : decode cX11_a 1 = .ok (.getfield 53, 3) := by decide +kernel
theorem dX11_a_4 : decode cX11_a 4 = .ok (.getfield 319, 3) := by decide +kernel
theorem dX11_a_7 : decode cX11_a 7 = .ok (.ireturn, 1) := by decide +kernel
theorem dX11_x_0 : decode cX11_x 0 = .ok (.aload_n 0, 1) := by decide +kernel
theorem dX11_x_1 : decode cX11_x 1 = .ok (.getfield 53, 3) := by decide +kernel
theorem dX11_x_4 : decode cX11_x 4 = .ok (.getfield 322, 3) := by decide +kernel
theorem dX11_x_7 : decode cX11_x 7 = .ok (.ireturn, 1) := by decide +kernel
theorem dX11_s_0 : decode cX11_s 0 = .ok (.aload_n 0, 1) := by decide +kernel
theorem dX11_s_1 : decode cX11_s 1 = .ok (.getfield 53, 3) := by decide +kernel
theorem dX11_s_4 : decode cX11_s 4 = .ok (.getfield 325, 3) := by decide +kernel
theorem dX11_s_7 : decode cX11_s 7 = .ok (.ireturn, 1) := by decide +kernel
theorem dX11_flags_0 : decode cX11_flags 0 = .ok (.aload_n 0, 1) := by decide +kernel
theorem dX11_flags_1 : decode cX11_flags 1 = .ok (.getfield 53, 3) := by decide +kernel
theorem dX11_flags_4 : decode cX11_flags 4 = .ok (.getfield 328, 3) := by decide +kernel
theorem dX11_flags_7 : decode cX11_flags 7 = .ok (.ireturn, 1) := by decide +kernel
theorem dX11_pc_0 : decode cX11_pc 0 = .ok (.aload_n 0, 1) := by decide +kernel
theorem dX11_pc_1 : decode cX11_pc 1 = .ok (.getfield 53, 3) := by decide +kernel
theorem dX11_pc_4 : decode cX11_pc 4 = .ok (.getfield 201, 3) := by decide +kernel
theorem dX11_pc_7 : decode cX11_pc 7 = .ok (.ireturn, 1) := by decide +kernel
theorem dX11_state_0 : decode cX11_state 0 = .ok (.aload_n 0, 1) := by decide +kernel
theorem dX11_state_1 : decode cX11_state 1 = .ok (.getfield 53, 3) := by decide +kernel
theorem dX11_state_4 : decode cX11_state 4 = .ok (.getfield 331, 3) := by decide +kernel
theorem dX11_state_7 : decode cX11_state 7 = .ok (.ireturn, 1) := by decide +kernel
theorem dX11_cycles_0 : decode cX11_cycles 0 = .ok (.aload_n 0, 1) := by decide +kernel
theorem dX11_cycles_1 : decode cX11_cycles 1 = .ok (.getfield 53, 3) := by decide +kernel
theorem dX11_cycles_4 : decode cX11_cycles 4 = .ok (.getfield 334, 3) := by decide +kernel
theorem dX11_cycles_7 : decode cX11_cycles 7 = .ok (.ireturn, 1) := by decide +kernel
theorem dX11_instructions_0 : decode cX11_instructions 0 = .ok (.aload_n 0, 1) := by decide +kernel
theorem dX11_instructions_1 : decode cX11_instructions 1 = .ok (.getfield 53, 3) := by decide +kernel
theorem dX11_instructions_4 : decode cX11_instructions 4 = .ok (.getfield 337, 3) := by decide +kernel
theorem dX11_instructions_7 : decode cX11_instructions 7 = .ok (.ireturn, 1) := by decide +kernel
theorem dX11_byteAt_0 : decode cX11_byteAt 0 = .ok (.iload_n 1, 1) := by decide +kernel
theorem dX11_byteAt_1 : decode cX11_byteAt 1 = .ok (.invokestatic 172, 3) := by decide +kernel
theorem dX11_byteAt_4 : decode cX11_byteAt 4 = .ok (.ifCond .eq 13, 3) := by decide +kernel
theorem dX11_byteAt_7 : decode cX11_byteAt 7 = .ok (.new 102, 3) := by decide +kernel
theorem dX11_byteAt_10 : decode cX11_byteAt 10 = .ok (.dup, 1) := by decide +kernel
theorem dX11_byteAt_11 : decode cX11_byteAt 11 = .ok (.ldc 176, 2) := by decide +kernel
theorem dX11_byteAt_13 : decode cX11_byteAt 13 = .ok (.invokespecial 106, 3) := by decide +kernel
theorem dX11_byteAt_16 : decode cX11_byteAt 16 = .ok (.athrow, 1) := by decide +kernel
theorem dX11_byteAt_17 : decode cX11_byteAt 17 = .ok (.aload_n 0, 1) := by decide +kernel
theorem dX11_byteAt_18 : decode cX11_byteAt 18 = .ok (.getfield 53, 3) := by decide +kernel
theorem dX11_byteAt_21 : decode cX11_byteAt 21 = .ok (.iload_n 1, 1) := by decide +kernel
theorem dX11_byteAt_22 : decode cX11_byteAt 22 = .ok (.invokevirtual 340, 3) := by decide +kernel
theorem dX11_byteAt_25 : decode cX11_byteAt 25 = .ok (.ireturn, 1) := by decide +kernel
theorem dX11_byteIn_0 : decode cX11_byteIn 0 = .ok (.iload_n 1, 1) := by decide +kernel
theorem dX11_byteIn_1 : decode cX11_byteIn 1 = .ok (.ifCond .lt 9, 3) := by decide +kernel
theorem dX11_byteIn_4 : decode cX11_byteIn 4 = .ok (.iload_n 1, 1) := by decide +kernel
theorem dX11_byteIn_5 : decode cX11_byteIn 5 = .ok (.bipush 8, 2) := by decide +kernel
theorem dX11_byteIn_7 : decode cX11_byteIn 7 = .ok (.if_icmp .lt 14, 3) := by decide +kernel
theorem dX11_byteIn_10 : decode cX11_byteIn 10 = .ok (.new 160, 3) := by decide +kernel
theorem dX11_byteIn_13 : decode cX11_byteIn 13 = .ok (.dup, 1) := by decide +kernel
theorem dX11_byteIn_14 : decode cX11_byteIn 14 = .ok (.ldc_w 343, 3) := by decide +kernel
theorem dX11_byteIn_17 : decode cX11_byteIn 17 = .ok (.invokespecial 164, 3) := by decide +kernel
theorem dX11_byteIn_20 : decode cX11_byteIn 20 = .ok (.athrow, 1) := by decide +kernel
theorem dX11_byteIn_21 : decode cX11_byteIn 21 = .ok (.iload_n 2, 1) := by decide +kernel
theorem dX11_byteIn_22 : decode cX11_byteIn 22 = .ok (.ifCond .lt 10, 3) := by decide +kernel
theorem dX11_byteIn_25 : decode cX11_byteIn 25 = .ok (.iload_n 2, 1) := by decide +kernel
theorem dX11_byteIn_26 : decode cX11_byteIn 26 = .ok (.sipush 1024, 3) := by decide +kernel
theorem dX11_byteIn_29 : decode cX11_byteIn 29 = .ok (.if_icmp .lt 14, 3) := by decide +kernel
theorem dX11_byteIn_32 : decode cX11_byteIn 32 = .ok (.new 102, 3) := by decide +kernel
theorem dX11_byteIn_35 : decode cX11_byteIn 35 = .ok (.dup, 1) := by decide +kernel
theorem dX11_byteIn_36 : decode cX11_byteIn 36 = .ok (.ldc_w 345, 3) := by decide +kernel
theorem dX11_byteIn_39 : decode cX11_byteIn 39 = .ok (.invokespecial 106, 3) := by decide +kernel
theorem dX11_byteIn_42 : decode cX11_byteIn 42 = .ok (.athrow, 1) := by decide +kernel
theorem dX11_byteIn_43 : decode cX11_byteIn 43 = .ok (.aload_n 0, 1) := by decide +kernel
theorem dX11_byteIn_44 : decode cX11_byteIn 44 = .ok (.getfield 53, 3) := by decide +kernel
theorem dX11_byteIn_47 : decode cX11_byteIn 47 = .ok (.getfield 144, 3) := by decide +kernel
theorem dX11_byteIn_50 : decode cX11_byteIn 50 = .ok (.sipush 1792, 3) := by decide +kernel
theorem dX11_byteIn_53 : decode cX11_byteIn 53 = .ok (.iload_n 1, 1) := by decide +kernel
theorem dX11_byteIn_54 : decode cX11_byteIn 54 = .ok (.sipush 1024, 3) := by decide +kernel
theorem dX11_byteIn_57 : decode cX11_byteIn 57 = .ok (.imul, 1) := by decide +kernel
theorem dX11_byteIn_58 : decode cX11_byteIn 58 = .ok (.iadd, 1) := by decide +kernel
theorem dX11_byteIn_59 : decode cX11_byteIn 59 = .ok (.iload_n 2, 1) := by decide +kernel
theorem dX11_byteIn_60 : decode cX11_byteIn 60 = .ok (.iadd, 1) := by decide +kernel
theorem dX11_byteIn_61 : decode cX11_byteIn 61 = .ok (.invokestatic 168, 3) := by decide +kernel
theorem dX11_byteIn_64 : decode cX11_byteIn 64 = .ok (.ireturn, 1) := by decide +kernel
theorem dX11_bank_0 : decode cX11_bank 0 = .ok (.aload_n 0, 1) := by decide +kernel
theorem dX11_bank_1 : decode cX11_bank 1 = .ok (.getfield 53, 3) := by decide +kernel
theorem dX11_bank_4 : decode cX11_bank 4 = .ok (.getfield 185, 3) := by decide +kernel
theorem dX11_bank_7 : decode cX11_bank 7 = .ok (.getfield 189, 3) := by decide +kernel
theorem dX11_bank_10 : decode cX11_bank 10 = .ok (.ireturn, 1) := by decide +kernel
theorem dX11_mask_0 : decode cX11_mask 0 = .ok (.aload_n 0, 1) := by decide +kernel
theorem dX11_mask_1 : decode cX11_mask 1 = .ok (.getfield 53, 3) := by decide +kernel
theorem dX11_mask_4 : decode cX11_mask 4 = .ok (.getfield 185, 3) := by decide +kernel
theorem dX11_mask_7 : decode cX11_mask 7 = .ok (.getfield 347, 3) := by decide +kernel
theorem dX11_mask_10 : decode cX11_mask 10 = .ok (.ireturn, 1) := by decide +kernel
theorem dX11_pending_0 : decode cX11_pending 0 = .ok (.aload_n 0, 1) := by decide +kernel
theorem dX11_pending_1 : decode cX11_pending 1 = .ok (.getfield 53, 3) := by decide +kernel
theorem dX11_pending_4 : decode cX11_pending 4 = .ok (.getfield 185, 3) := by decide +kernel
theorem dX11_pending_7 : decode cX11_pending 7 = .ok (.getfield 217, 3) := by decide +kernel
theorem dX11_pending_10 : decode cX11_pending 10 = .ok (.ireturn, 1) := by decide +kernel
theorem dX11_count_0 : decode cX11_count 0 = .ok (.aload_n 0, 1) := by decide +kernel
theorem dX11_count_1 : decode cX11_count 1 = .ok (.getfield 53, 3) := by decide +kernel
theorem dX11_count_4 : decode cX11_count 4 = .ok (.getfield 185, 3) := by decide +kernel
theorem dX11_count_7 : decode cX11_count 7 = .ok (.getfield 350, 3) := by decide +kernel
theorem dX11_count_10 : decode cX11_count 10 = .ok (.ireturn, 1) := by decide +kernel
theorem dX11_inputs_0 : decode cX11_inputs 0 = .ok (.aload_n 0, 1) := by decide +kernel
theorem dX11_inputs_1 : decode cX11_inputs 1 = .ok (.getfield 53, 3) := by decide +kernel
theorem dX11_inputs_4 : decode cX11_inputs 4 = .ok (.getfield 185, 3) := by decide +kernel
theorem dX11_inputs_7 : decode cX11_inputs 7 = .ok (.getfield 209, 3) := by decide +kernel
theorem dX11_inputs_10 : decode cX11_inputs 10 = .ok (.ireturn, 1) := by decide +kernel
theorem dX11_outputs_0 : decode cX11_outputs 0 = .ok (.aload_n 0, 1) := by decide +kernel
theorem dX11_outputs_1 : decode cX11_outputs 1 = .ok (.getfield 53, 3) := by decide +kernel
theorem dX11_outputs_4 : decode cX11_outputs 4 = .ok (.getfield 185, 3) := by decide +kernel
theorem dX11_outputs_7 : decode cX11_outputs 7 = .ok (.getfield 353, 3) := by decide +kernel
theorem dX11_outputs_10 : decode cX11_outputs 10 = .ok (.ireturn, 1) := by decide +kernel
theorem dX11_outputAt_0 : decode cX11_outputAt 0 = .ok (.iload_n 1, 1) := by decide +kernel
theorem dX11_outputAt_1 : decode cX11_outputAt 1 = .ok (.ifCond .lt 17, 3) := by decide +kernel
theorem dX11_outputAt_4 : decode cX11_outputAt 4 = .ok (.iload_n 1, 1) := by decide +kernel
theorem dX11_outputAt_5 : decode cX11_outputAt 5 = .ok (.aload_n 0, 1) := by decide +kernel
theorem dX11_outputAt_6 : decode cX11_outputAt 6 = .ok (.getfield 53, 3) := by decide +kernel
theorem dX11_outputAt_9 : decode cX11_outputAt 9 = .ok (.getfield 185, 3) := by decide +kernel
theorem dX11_outputAt_12 : decode cX11_outputAt 12 = .ok (.invokevirtual 356, 3) := by decide +kernel
theorem dX11_outputAt_15 : decode cX11_outputAt 15 = .ok (.if_icmp .lt 14, 3) := by decide +kernel
theorem dX11_outputAt_18 : decode cX11_outputAt 18 = .ok (.new 160, 3) := by decide +kernel
theorem dX11_outputAt_21 : decode cX11_outputAt 21 = .ok (.dup, 1) := by decide +kernel
theorem dX11_outputAt_22 : decode cX11_outputAt 22 = .ok (.ldc_w 359, 3) := by decide +kernel
theorem dX11_outputAt_25 : decode cX11_outputAt 25 = .ok (.invokespecial 164, 3) := by decide +kernel
theorem dX11_outputAt_28 : decode cX11_outputAt 28 = .ok (.athrow, 1) := by decide +kernel
theorem dX11_outputAt_29 : decode cX11_outputAt 29 = .ok (.aload_n 0, 1) := by decide +kernel
theorem dX11_outputAt_30 : decode cX11_outputAt 30 = .ok (.getfield 53, 3) := by decide +kernel
theorem dX11_outputAt_33 : decode cX11_outputAt 33 = .ok (.getfield 185, 3) := by decide +kernel
theorem dX11_outputAt_36 : decode cX11_outputAt 36 = .ok (.iload_n 1, 1) := by decide +kernel
theorem dX11_outputAt_37 : decode cX11_outputAt 37 = .ok (.invokevirtual 361, 3) := by decide +kernel
theorem dX11_outputAt_40 : decode cX11_outputAt 40 = .ok (.ireturn, 1) := by decide +kernel
theorem dX11_calls_0 : decode cX11_calls 0 = .ok (.aload_n 0, 1) := by decide +kernel
theorem dX11_calls_1 : decode cX11_calls 1 = .ok (.getfield 53, 3) := by decide +kernel
theorem dX11_calls_4 : decode cX11_calls 4 = .ok (.getfield 265, 3) := by decide +kernel
theorem dX11_calls_7 : decode cX11_calls 7 = .ok (.ireturn, 1) := by decide +kernel
theorem dX11_callAt_0 : decode cX11_callAt 0 = .ok (.iload_n 1, 1) := by decide +kernel
theorem dX11_callAt_1 : decode cX11_callAt 1 = .ok (.ifCond .lt 14, 3) := by decide +kernel
theorem dX11_callAt_4 : decode cX11_callAt 4 = .ok (.iload_n 1, 1) := by decide +kernel
theorem dX11_callAt_5 : decode cX11_callAt 5 = .ok (.aload_n 0, 1) := by decide +kernel
theorem dX11_callAt_6 : decode cX11_callAt 6 = .ok (.getfield 53, 3) := by decide +kernel
theorem dX11_callAt_9 : decode cX11_callAt 9 = .ok (.getfield 265, 3) := by decide +kernel
theorem dX11_callAt_12 : decode cX11_callAt 12 = .ok (.if_icmp .lt 14, 3) := by decide +kernel
theorem dX11_callAt_15 : decode cX11_callAt 15 = .ok (.new 160, 3) := by decide +kernel
theorem dX11_callAt_18 : decode cX11_callAt 18 = .ok (.dup, 1) := by decide +kernel
theorem dX11_callAt_19 : decode cX11_callAt 19 = .ok (.ldc_w 364, 3) := by decide +kernel
theorem dX11_callAt_22 : decode cX11_callAt 22 = .ok (.invokespecial 164, 3) := by decide +kernel
theorem dX11_callAt_25 : decode cX11_callAt 25 = .ok (.athrow, 1) := by decide +kernel
theorem dX11_callAt_26 : decode cX11_callAt 26 = .ok (.aload_n 0, 1) := by decide +kernel
theorem dX11_callAt_27 : decode cX11_callAt 27 = .ok (.getfield 53, 3) := by decide +kernel
theorem dX11_callAt_30 : decode cX11_callAt 30 = .ok (.getfield 366, 3) := by decide +kernel
theorem dX11_callAt_33 : decode cX11_callAt 33 = .ok (.aload_n 0, 1) := by decide +kernel
theorem dX11_callAt_34 : decode cX11_callAt 34 = .ok (.getfield 53, 3) := by decide +kernel
theorem dX11_callAt_37 : decode cX11_callAt 37 = .ok (.getfield 265, 3) := by decide +kernel
theorem dX11_callAt_40 : decode cX11_callAt 40 = .ok (.iconst 1, 1) := by decide +kernel
theorem dX11_callAt_41 : decode cX11_callAt 41 = .ok (.isub, 1) := by decide +kernel
theorem dX11_callAt_42 : decode cX11_callAt 42 = .ok (.iload_n 1, 1) := by decide +kernel
theorem dX11_callAt_43 : decode cX11_callAt 43 = .ok (.isub, 1) := by decide +kernel
theorem dX11_callAt_44 : decode cX11_callAt 44 = .ok (.invokestatic 168, 3) := by decide +kernel
theorem dX11_callAt_47 : decode cX11_callAt 47 = .ok (.ireturn, 1) := by decide +kernel
theorem dX11_timesAt_0 : decode cX11_timesAt 0 = .ok (.iload_n 1, 1) := by decide +kernel
theorem dX11_timesAt_1 : decode cX11_timesAt 1 = .ok (.invokestatic 172, 3) := by decide +kernel
theorem dX11_timesAt_4 : decode cX11_timesAt 4 = .ok (.ifCond .eq 13, 3) := by decide +kernel
theorem dX11_timesAt_7 : decode cX11_timesAt 7 = .ok (.new 102, 3) := by decide +kernel
theorem dX11_timesAt_10 : decode cX11_timesAt 10 = .ok (.dup, 1) := by decide +kernel
theorem dX11_timesAt_11 : decode cX11_timesAt 11 = .ok (.ldc 176, 2) := by decide +kernel
theorem dX11_timesAt_13 : decode cX11_timesAt 13 = .ok (.invokespecial 106, 3) := by decide +kernel
theorem dX11_timesAt_16 : decode cX11_timesAt 16 = .ok (.athrow, 1) := by decide +kernel
theorem dX11_timesAt_17 : decode cX11_timesAt 17 = .ok (.aload_n 0, 1) := by decide +kernel
theorem dX11_timesAt_18 : decode cX11_timesAt 18 = .ok (.getfield 53, 3) := by decide +kernel
theorem dX11_timesAt_21 : decode cX11_timesAt 21 = .ok (.getfield 369, 3) := by decide +kernel
theorem dX11_timesAt_24 : decode cX11_timesAt 24 = .ok (.iload_n 1, 1) := by decide +kernel
theorem dX11_timesAt_25 : decode cX11_timesAt 25 = .ok (.invokestatic 168, 3) := by decide +kernel
theorem dX11_timesAt_28 : decode cX11_timesAt 28 = .ok (.ireturn, 1) := by decide +kernel
theorem dX11_hottest_0 : decode cX11_hottest 0 = .ok (.aload_n 0, 1) := by decide +kernel
theorem dX11_hottest_1 : decode cX11_hottest 1 = .ok (.getfield 53, 3) := by decide +kernel
theorem dX11_hottest_4 : decode cX11_hottest 4 = .ok (.invokevirtual 372, 3) := by decide +kernel
theorem dX11_hottest_7 : decode cX11_hottest 7 = .ok (.ireturn, 1) := by decide +kernel
theorem dX11_codeAt_0 : decode cX11_codeAt 0 = .ok (.iload_n 1, 1) := by decide +kernel
theorem dX11_codeAt_1 : decode cX11_codeAt 1 = .ok (.invokestatic 172, 3) := by decide +kernel
theorem dX11_codeAt_4 : decode cX11_codeAt 4 = .ok (.ifCond .eq 13, 3) := by decide +kernel
theorem dX11_codeAt_7 : decode cX11_codeAt 7 = .ok (.new 102, 3) := by decide +kernel
theorem dX11_codeAt_10 : decode cX11_codeAt 10 = .ok (.dup, 1) := by decide +kernel
theorem dX11_codeAt_11 : decode cX11_codeAt 11 = .ok (.ldc 176, 2) := by decide +kernel
theorem dX11_codeAt_13 : decode cX11_codeAt 13 = .ok (.invokespecial 106, 3) := by decide +kernel
theorem dX11_codeAt_16 : decode cX11_codeAt 16 = .ok (.athrow, 1) := by decide +kernel
theorem dX11_codeAt_17 : decode cX11_codeAt 17 = .ok (.aload_n 0, 1) := by decide +kernel
theorem dX11_codeAt_18 : decode cX11_codeAt 18 = .ok (.getfield 53, 3) := by decide +kernel
theorem dX11_codeAt_21 : decode cX11_codeAt 21 = .ok (.iload_n 1, 1) := by decide +kernel
theorem dX11_codeAt_22 : decode cX11_codeAt 22 = .ok (.invokevirtual 340, 3) := by decide +kernel
theorem dX11_codeAt_25 : decode cX11_codeAt 25 = .ok (.istore_n 2, 1) := by decide +kernel
theorem dX11_codeAt_26 : decode cX11_codeAt 26 = .ok (.iload_n 2, 1) := by decide +kernel
theorem dX11_codeAt_27 : decode cX11_codeAt 27 = .ok (.invokestatic 375, 3) := by decide +kernel
theorem dX11_codeAt_30 : decode cX11_codeAt 30 = .ok (.ifCond .le 7, 3) := by decide +kernel
theorem dX11_codeAt_33 : decode cX11_codeAt 33 = .ok (.iload_n 2, 1) := by decide +kernel
theorem dX11_codeAt_34 : decode cX11_codeAt 34 = .ok (.goto 4, 3) := by decide +kernel
theorem dX11_codeAt_37 : decode cX11_codeAt 37 = .ok (.iconst (-1), 1) := by decide +kernel
theorem dX11_codeAt_38 : decode cX11_codeAt 38 = .ok (.ireturn, 1) := by decide +kernel
theorem dX11_lengthAt_0 : decode cX11_lengthAt 0 = .ok (.iload_n 1, 1) := by decide +kernel
theorem dX11_lengthAt_1 : decode cX11_lengthAt 1 = .ok (.invokestatic 172, 3) := by decide +kernel
theorem dX11_lengthAt_4 : decode cX11_lengthAt 4 = .ok (.ifCond .eq 13, 3) := by decide +kernel
theorem dX11_lengthAt_7 : decode cX11_lengthAt 7 = .ok (.new 102, 3) := by decide +kernel
theorem dX11_lengthAt_10 : decode cX11_lengthAt 10 = .ok (.dup, 1) := by decide +kernel
theorem dX11_lengthAt_11 : decode cX11_lengthAt 11 = .ok (.ldc 176, 2) := by decide +kernel
theorem dX11_lengthAt_13 : decode cX11_lengthAt 13 = .ok (.invokespecial 106, 3) := by decide +kernel
theorem dX11_lengthAt_16 : decode cX11_lengthAt 16 = .ok (.athrow, 1) := by decide +kernel
theorem dX11_lengthAt_17 : decode cX11_lengthAt 17 = .ok (.aload_n 0, 1) := by decide +kernel
theorem dX11_lengthAt_18 : decode cX11_lengthAt 18 = .ok (.getfield 53, 3) := by decide +kernel
theorem dX11_lengthAt_21 : decode cX11_lengthAt 21 = .ok (.iload_n 1, 1) := by decide +kernel
theorem dX11_lengthAt_22 : decode cX11_lengthAt 22 = .ok (.invokevirtual 340, 3) := by decide +kernel
theorem dX11_lengthAt_25 : decode cX11_lengthAt 25 = .ok (.invokestatic 375, 3) := by decide +kernel
theorem dX11_lengthAt_28 : decode cX11_lengthAt 28 = .ok (.ireturn, 1) := by decide +kernel
theorem dX11_operandAt_0 : decode cX11_operandAt 0 = .ok (.iload_n 1, 1) := by decide +kernel
theorem dX11_operandAt_1 : decode cX11_operandAt 1 = .ok (.invokestatic 172, 3) := by decide +kernel
theorem dX11_operandAt_4 : decode cX11_operandAt 4 = .ok (.ifCond .eq 13, 3) := by decide +kernel
theorem dX11_operandAt_7 : decode cX11_operandAt 7 = .ok (.new 102, 3) := by decide +kernel
theorem dX11_operandAt_10 : decode cX11_operandAt 10 = .ok (.dup, 1) := by decide +kernel
theorem dX11_operandAt_11 : decode cX11_operandAt 11 = .ok (.ldc 176, 2) := by decide +kernel
theorem dX11_operandAt_13 : decode cX11_operandAt 13 = .ok (.invokespecial 106, 3) := by decide +kernel
theorem dX11_operandAt_16 : decode cX11_operandAt 16 = .ok (.athrow, 1) := by decide +kernel
theorem dX11_operandAt_17 : decode cX11_operandAt 17 = .ok (.aload_n 0, 1) := by decide +kernel
theorem dX11_operandAt_18 : decode cX11_operandAt 18 = .ok (.getfield 53, 3) := by decide +kernel
theorem dX11_operandAt_21 : decode cX11_operandAt 21 = .ok (.iload_n 1, 1) := by decide +kernel
theorem dX11_operandAt_22 : decode cX11_operandAt 22 = .ok (.invokevirtual 378, 3) := by decide +kernel
theorem dX11_operandAt_25 : decode cX11_operandAt 25 = .ok (.ireturn, 1) := by decide +kernel
theorem dX11_cyclesToHalt_0 : decode cX11_cyclesToHalt 0 = .ok (.iload_n 1, 1) := by decide +kernel
theorem dX11_cyclesToHalt_1 : decode cX11_cyclesToHalt 1 = .ok (.invokestatic 250, 3) := by decide +kernel
theorem dX11_cyclesToHalt_4 : decode cX11_cyclesToHalt 4 = .ok (.ifCond .eq 13, 3) := by decide +kernel
theorem dX11_cyclesToHalt_7 : decode cX11_cyclesToHalt 7 = .ok (.new 102, 3) := by decide +kernel
theorem dX11_cyclesToHalt_10 : decode cX11_cyclesToHalt 10 = .ok (.dup, 1) := by decide +kernel
theorem dX11_cyclesToHalt_11 : decode cX11_cyclesToHalt 11 = .ok (.ldc 253, 2) := by decide +kernel
theorem dX11_cyclesToHalt_13 : decode cX11_cyclesToHalt 13 = .ok (.invokespecial 106, 3) := by decide +kernel
theorem dX11_cyclesToHalt_16 : decode cX11_cyclesToHalt 16 = .ok (.athrow, 1) := by decide +kernel
theorem dX11_cyclesToHalt_17 : decode cX11_cyclesToHalt 17 = .ok (.aload_n 0, 1) := by decide +kernel
theorem dX11_cyclesToHalt_18 : decode cX11_cyclesToHalt 18 = .ok (.getfield 57, 3) := by decide +kernel
theorem dX11_cyclesToHalt_21 : decode cX11_cyclesToHalt 21 = .ok (.aload_n 0, 1) := by decide +kernel
theorem dX11_cyclesToHalt_22 : decode cX11_cyclesToHalt 22 = .ok (.getfield 53, 3) := by decide +kernel
theorem dX11_cyclesToHalt_25 : decode cX11_cyclesToHalt 25 = .ok (.invokevirtual 381, 3) := by decide +kernel
theorem dX11_cyclesToHalt_28 : decode cX11_cyclesToHalt 28 = .ok (.iconst 0, 1) := by decide +kernel
theorem dX11_cyclesToHalt_29 : decode cX11_cyclesToHalt 29 = .ok (.istore_n 2, 1) := by decide +kernel
theorem dX11_cyclesToHalt_30 : decode cX11_cyclesToHalt 30 = .ok (.iconst 0, 1) := by decide +kernel
theorem dX11_cyclesToHalt_31 : decode cX11_cyclesToHalt 31 = .ok (.istore_n 3, 1) := by decide +kernel
theorem dX11_cyclesToHalt_32 : decode cX11_cyclesToHalt 32 = .ok (.iload_n 3, 1) := by decide +kernel
theorem dX11_cyclesToHalt_33 : decode cX11_cyclesToHalt 33 = .ok (.ldc_w 307, 3) := by decide +kernel
theorem dX11_cyclesToHalt_36 : decode cX11_cyclesToHalt 36 = .ok (.if_icmp .ge 34, 3) := by decide +kernel
theorem dX11_cyclesToHalt_39 : decode cX11_cyclesToHalt 39 = .ok (.iload_n 2, 1) := by decide +kernel
theorem dX11_cyclesToHalt_40 : decode cX11_cyclesToHalt 40 = .ok (.iload_n 1, 1) := by decide +kernel
theorem dX11_cyclesToHalt_41 : decode cX11_cyclesToHalt 41 = .ok (.if_icmp .ge 29, 3) := by decide +kernel
theorem dX11_cyclesToHalt_44 : decode cX11_cyclesToHalt 44 = .ok (.aload_n 0, 1) := by decide +kernel
theorem dX11_cyclesToHalt_45 : decode cX11_cyclesToHalt 45 = .ok (.getfield 57, 3) := by decide +kernel
theorem dX11_cyclesToHalt_48 : decode cX11_cyclesToHalt 48 = .ok (.invokevirtual 240, 3) := by decide +kernel
theorem dX11_cyclesToHalt_51 : decode cX11_cyclesToHalt 51 = .ok (.ifCond .ne 19, 3) := by decide +kernel
theorem dX11_cyclesToHalt_54 : decode cX11_cyclesToHalt 54 = .ok (.iload_n 2, 1) := by decide +kernel
theorem dX11_cyclesToHalt_55 : decode cX11_cyclesToHalt 55 = .ok (.aload_n 0, 1) := by decide +kernel
theorem dX11_cyclesToHalt_56 : decode cX11_cyclesToHalt 56 = .ok (.getfield 57, 3) := by decide +kernel
theorem dX11_cyclesToHalt_59 : decode cX11_cyclesToHalt 59 = .ok (.invokevirtual 247, 3) := by decide +kernel
theorem dX11_cyclesToHalt_62 : decode cX11_cyclesToHalt 62 = .ok (.iadd, 1) := by decide +kernel
theorem dX11_cyclesToHalt_63 : decode cX11_cyclesToHalt 63 = .ok (.istore_n 2, 1) := by decide +kernel
theorem dX11_cyclesToHalt_64 : decode cX11_cyclesToHalt 64 = .ok (.iinc 3 1, 3) := by decide +kernel
theorem dX11_cyclesToHalt_67 : decode cX11_cyclesToHalt 67 = .ok (.goto (-35), 3) := by decide +kernel
theorem dX11_cyclesToHalt_70 : decode cX11_cyclesToHalt 70 = .ok (.aload_n 0, 1) := by decide +kernel
theorem dX11_cyclesToHalt_71 : decode cX11_cyclesToHalt 71 = .ok (.getfield 57, 3) := by decide +kernel
theorem dX11_cyclesToHalt_74 : decode cX11_cyclesToHalt 74 = .ok (.invokevirtual 240, 3) := by decide +kernel
theorem dX11_cyclesToHalt_77 : decode cX11_cyclesToHalt 77 = .ok (.ifCond .eq 7, 3) := by decide +kernel
theorem dX11_cyclesToHalt_80 : decode cX11_cyclesToHalt 80 = .ok (.iload_n 2, 1) := by decide +kernel
theorem dX11_cyclesToHalt_81 : decode cX11_cyclesToHalt 81 = .ok (.goto 4, 3) := by decide +kernel
theorem dX11_cyclesToHalt_84 : decode cX11_cyclesToHalt 84 = .ok (.iconst (-1), 1) := by decide +kernel
theorem dX11_cyclesToHalt_85 : decode cX11_cyclesToHalt 85 = .ok (.ireturn, 1) := by decide +kernel
theorem dX11_cyclesToReach_0 : decode cX11_cyclesToReach 0 = .ok (.iload_n 1, 1) := by decide +kernel
theorem dX11_cyclesToReach_1 : decode cX11_cyclesToReach 1 = .ok (.invokestatic 172, 3) := by decide +kernel
theorem dX11_cyclesToReach_4 : decode cX11_cyclesToReach 4 = .ok (.ifCond .eq 13, 3) := by decide +kernel
theorem dX11_cyclesToReach_7 : decode cX11_cyclesToReach 7 = .ok (.new 102, 3) := by decide +kernel
theorem dX11_cyclesToReach_10 : decode cX11_cyclesToReach 10 = .ok (.dup, 1) := by decide +kernel
theorem dX11_cyclesToReach_11 : decode cX11_cyclesToReach 11 = .ok (.ldc 176, 2) := by decide +kernel
theorem dX11_cyclesToReach_13 : decode cX11_cyclesToReach 13 = .ok (.invokespecial 106, 3) := by decide +kernel
theorem dX11_cyclesToReach_16 : decode cX11_cyclesToReach 16 = .ok (.athrow, 1) := by decide +kernel
theorem dX11_cyclesToReach_17 : decode cX11_cyclesToReach 17 = .ok (.iload_n 2, 1) := by decide +kernel
theorem dX11_cyclesToReach_18 : decode cX11_cyclesToReach 18 = .ok (.invokestatic 250, 3) := by decide +kernel
theorem dX11_cyclesToReach_21 : decode cX11_cyclesToReach 21 = .ok (.ifCond .eq 13, 3) := by decide +kernel
theorem dX11_cyclesToReach_24 : decode cX11_cyclesToReach 24 = .ok (.new 102, 3) := by decide +kernel
theorem dX11_cyclesToReach_27 : decode cX11_cyclesToReach 27 = .ok (.dup, 1) := by decide +kernel
theorem dX11_cyclesToReach_28 : decode cX11_cyclesToReach 28 = .ok (.ldc 253, 2) := by decide +kernel
theorem dX11_cyclesToReach_30 : decode cX11_cyclesToReach 30 = .ok (.invokespecial 106, 3) := by decide +kernel
theorem dX11_cyclesToReach_33 : decode cX11_cyclesToReach 33 = .ok (.athrow, 1) := by decide +kernel
theorem dX11_cyclesToReach_34 : decode cX11_cyclesToReach 34 = .ok (.aload_n 0, 1) := by decide +kernel
theorem dX11_cyclesToReach_35 : decode cX11_cyclesToReach 35 = .ok (.getfield 57, 3) := by decide +kernel
theorem dX11_cyclesToReach_38 : decode cX11_cyclesToReach 38 = .ok (.aload_n 0, 1) := by decide +kernel
theorem dX11_cyclesToReach_39 : decode cX11_cyclesToReach 39 = .ok (.getfield 53, 3) := by decide +kernel
theorem dX11_cyclesToReach_42 : decode cX11_cyclesToReach 42 = .ok (.invokevirtual 381, 3) := by decide +kernel
theorem dX11_cyclesToReach_45 : decode cX11_cyclesToReach 45 = .ok (.iconst 0, 1) := by decide +kernel
theorem dX11_cyclesToReach_46 : decode cX11_cyclesToReach 46 = .ok (.istore_n 3, 1) := by decide +kernel
theorem dX11_cyclesToReach_47 : decode cX11_cyclesToReach 47 = .ok (.aload_n 0, 1) := by decide +kernel
theorem dX11_cyclesToReach_48 : decode cX11_cyclesToReach 48 = .ok (.getfield 57, 3) := by decide +kernel
theorem dX11_cyclesToReach_51 : decode cX11_cyclesToReach 51 = .ok (.iload_n 1, 1) := by decide +kernel
theorem dX11_cyclesToReach_52 : decode cX11_cyclesToReach 52 = .ok (.invokevirtual 384, 3) := by decide +kernel
theorem dX11_cyclesToReach_55 : decode cX11_cyclesToReach 55 = .ok (.istore 4, 2) := by decide +kernel
theorem dX11_cyclesToReach_57 : decode cX11_cyclesToReach 57 = .ok (.iconst 0, 1) := by decide +kernel
theorem dX11_cyclesToReach_58 : decode cX11_cyclesToReach 58 = .ok (.istore 5, 2) := by decide +kernel
theorem dX11_cyclesToReach_60 : decode cX11_cyclesToReach 60 = .ok (.iload 5, 2) := by decide +kernel
theorem dX11_cyclesToReach_62 : decode cX11_cyclesToReach 62 = .ok (.ldc_w 307, 3) := by decide +kernel
theorem dX11_cyclesToReach_65 : decode cX11_cyclesToReach 65 = .ok (.if_icmp .ge 49, 3) := by decide +kernel
theorem dX11_cyclesToReach_68 : decode cX11_cyclesToReach 68 = .ok (.iload 4, 2) := by decide +kernel
theorem dX11_cyclesToReach_70 : decode cX11_cyclesToReach 70 = .ok (.ifCond .ne 44, 3) := by decide +kernel
theorem dX11_cyclesToReach_73 : decode cX11_cyclesToReach 73 = .ok (.iload_n 3, 1) := by decide +kernel
theorem dX11_cyclesToReach_74 : decode cX11_cyclesToReach 74 = .ok (.iload_n 2, 1) := by decide +kernel
theorem dX11_cyclesToReach_75 : decode cX11_cyclesToReach 75 = .ok (.if_icmp .ge 39, 3) := by decide +kernel
theorem dX11_cyclesToReach_78 : decode cX11_cyclesToReach 78 = .ok (.aload_n 0, 1) := by decide +kernel
theorem dX11_cyclesToReach_79 : decode cX11_cyclesToReach 79 = .ok (.getfield 57, 3) := by decide +kernel
theorem dX11_cyclesToReach_82 : decode cX11_cyclesToReach 82 = .ok (.invokevirtual 240, 3) := by decide +kernel
theorem dX11_cyclesToReach_85 : decode cX11_cyclesToReach 85 = .ok (.ifCond .ne 29, 3) := by decide +kernel
theorem dX11_cyclesToReach_88 : decode cX11_cyclesToReach 88 = .ok (.iload_n 3, 1) := by decide +kernel
theorem dX11_cyclesToReach_89 : decode cX11_cyclesToReach 89 = .ok (.aload_n 0, 1) := by decide +kernel
theorem dX11_cyclesToReach_90 : decode cX11_cyclesToReach 90 = .ok (.getfield 57, 3) := by decide +kernel
theorem dX11_cyclesToReach_93 : decode cX11_cyclesToReach 93 = .ok (.invokevirtual 247, 3) := by decide +kernel
theorem dX11_cyclesToReach_96 : decode cX11_cyclesToReach 96 = .ok (.iadd, 1) := by decide +kernel
theorem dX11_cyclesToReach_97 : decode cX11_cyclesToReach 97 = .ok (.istore_n 3, 1) := by decide +kernel
theorem dX11_cyclesToReach_98 : decode cX11_cyclesToReach 98 = .ok (.aload_n 0, 1) := by decide +kernel
theorem dX11_cyclesToReach_99 : decode cX11_cyclesToReach 99 = .ok (.getfield 57, 3) := by decide +kernel
theorem dX11_cyclesToReach_102 : decode cX11_cyclesToReach 102 = .ok (.iload_n 1, 1) := by decide +kernel
theorem dX11_cyclesToReach_103 : decode cX11_cyclesToReach 103 = .ok (.invokevirtual 384, 3) := by decide +kernel
theorem dX11_cyclesToReach_106 : decode cX11_cyclesToReach 106 = .ok (.istore 4, 2) := by decide +kernel
theorem dX11_cyclesToReach_108 : decode cX11_cyclesToReach 108 = .ok (.iinc 5 1, 3) := by decide +kernel
theorem dX11_cyclesToReach_111 : decode cX11_cyclesToReach 111 = .ok (.goto (-51), 3) := by decide +kernel
theorem dX11_cyclesToReach_114 : decode cX11_cyclesToReach 114 = .ok (.iload 4, 2) := by decide +kernel
theorem dX11_cyclesToReach_116 : decode cX11_cyclesToReach 116 = .ok (.ifCond .eq 7, 3) := by decide +kernel
theorem dX11_cyclesToReach_119 : decode cX11_cyclesToReach 119 = .ok (.iload_n 3, 1) := by decide +kernel
theorem dX11_cyclesToReach_120 : decode cX11_cyclesToReach 120 = .ok (.goto 4, 3) := by decide +kernel
theorem dX11_cyclesToReach_123 : decode cX11_cyclesToReach 123 = .ok (.iconst (-1), 1) := by decide +kernel
theorem dX11_cyclesToReach_124 : decode cX11_cyclesToReach 124 = .ok (.ireturn, 1) := by decide +kernel
theorem dX11_outputsIn_0 : decode cX11_outputsIn 0 = .ok (.iload_n 1, 1) := by decide +kernel
theorem dX11_outputsIn_1 : decode cX11_outputsIn 1 = .ok (.invokestatic 250, 3) := by decide +kernel
theorem dX11_outputsIn_4 : decode cX11_outputsIn 4 = .ok (.ifCond .eq 13, 3) := by decide +kernel
theorem dX11_outputsIn_7 : decode cX11_outputsIn 7 = .ok (.new 102, 3) := by decide +kernel
theorem dX11_outputsIn_10 : decode cX11_outputsIn 10 = .ok (.dup, 1) := by decide +kernel
theorem dX11_outputsIn_11 : decode cX11_outputsIn 11 = .ok (.ldc 253, 2) := by decide +kernel
theorem dX11_outputsIn_13 : decode cX11_outputsIn 13 = .ok (.invokespecial 106, 3) := by decide +kernel
theorem dX11_outputsIn_16 : decode cX11_outputsIn 16 = .ok (.athrow, 1) := by decide +kernel
theorem dX11_outputsIn_17 : decode cX11_outputsIn 17 = .ok (.aload_n 0, 1) := by decide +kernel
theorem dX11_outputsIn_18 : decode cX11_outputsIn 18 = .ok (.getfield 57, 3) := by decide +kernel
theorem dX11_outputsIn_21 : decode cX11_outputsIn 21 = .ok (.aload_n 0, 1) := by decide +kernel
theorem dX11_outputsIn_22 : decode cX11_outputsIn 22 = .ok (.getfield 53, 3) := by decide +kernel
theorem dX11_outputsIn_25 : decode cX11_outputsIn 25 = .ok (.invokevirtual 381, 3) := by decide +kernel
theorem dX11_outputsIn_28 : decode cX11_outputsIn 28 = .ok (.iconst 0, 1) := by decide +kernel
theorem dX11_outputsIn_29 : decode cX11_outputsIn 29 = .ok (.istore_n 2, 1) := by decide +kernel
theorem dX11_outputsIn_30 : decode cX11_outputsIn 30 = .ok (.iconst 0, 1) := by decide +kernel
theorem dX11_outputsIn_31 : decode cX11_outputsIn 31 = .ok (.istore_n 3, 1) := by decide +kernel
theorem dX11_outputsIn_32 : decode cX11_outputsIn 32 = .ok (.iload_n 3, 1) := by decide +kernel
theorem dX11_outputsIn_33 : decode cX11_outputsIn 33 = .ok (.ldc_w 307, 3) := by decide +kernel
theorem dX11_outputsIn_36 : decode cX11_outputsIn 36 = .ok (.if_icmp .ge 34, 3) := by decide +kernel
theorem dX11_outputsIn_39 : decode cX11_outputsIn 39 = .ok (.iload_n 2, 1) := by decide +kernel
theorem dX11_outputsIn_40 : decode cX11_outputsIn 40 = .ok (.iload_n 1, 1) := by decide +kernel
theorem dX11_outputsIn_41 : decode cX11_outputsIn 41 = .ok (.if_icmp .ge 29, 3) := by decide +kernel
theorem dX11_outputsIn_44 : decode cX11_outputsIn 44 = .ok (.aload_n 0, 1) := by decide +kernel
theorem dX11_outputsIn_45 : decode cX11_outputsIn 45 = .ok (.getfield 57, 3) := by decide +kernel
theorem dX11_outputsIn_48 : decode cX11_outputsIn 48 = .ok (.invokevirtual 240, 3) := by decide +kernel
theorem dX11_outputsIn_51 : decode cX11_outputsIn 51 = .ok (.ifCond .ne 19, 3) := by decide +kernel
theorem dX11_outputsIn_54 : decode cX11_outputsIn 54 = .ok (.iload_n 2, 1) := by decide +kernel
theorem dX11_outputsIn_55 : decode cX11_outputsIn 55 = .ok (.aload_n 0, 1) := by decide +kernel
theorem dX11_outputsIn_56 : decode cX11_outputsIn 56 = .ok (.getfield 57, 3) := by decide +kernel
theorem dX11_outputsIn_59 : decode cX11_outputsIn 59 = .ok (.invokevirtual 247, 3) := by decide +kernel
theorem dX11_outputsIn_62 : decode cX11_outputsIn 62 = .ok (.iadd, 1) := by decide +kernel
theorem dX11_outputsIn_63 : decode cX11_outputsIn 63 = .ok (.istore_n 2, 1) := by decide +kernel
theorem dX11_outputsIn_64 : decode cX11_outputsIn 64 = .ok (.iinc 3 1, 3) := by decide +kernel
theorem dX11_outputsIn_67 : decode cX11_outputsIn 67 = .ok (.goto (-35), 3) := by decide +kernel
theorem dX11_outputsIn_70 : decode cX11_outputsIn 70 = .ok (.aload_n 0, 1) := by decide +kernel
theorem dX11_outputsIn_71 : decode cX11_outputsIn 71 = .ok (.getfield 57, 3) := by decide +kernel
theorem dX11_outputsIn_74 : decode cX11_outputsIn 74 = .ok (.getfield 185, 3) := by decide +kernel
theorem dX11_outputsIn_77 : decode cX11_outputsIn 77 = .ok (.getfield 353, 3) := by decide +kernel
theorem dX11_outputsIn_80 : decode cX11_outputsIn 80 = .ok (.aload_n 0, 1) := by decide +kernel
theorem dX11_outputsIn_81 : decode cX11_outputsIn 81 = .ok (.getfield 53, 3) := by decide +kernel
theorem dX11_outputsIn_84 : decode cX11_outputsIn 84 = .ok (.getfield 185, 3) := by decide +kernel
theorem dX11_outputsIn_87 : decode cX11_outputsIn 87 = .ok (.getfield 353, 3) := by decide +kernel
theorem dX11_outputsIn_90 : decode cX11_outputsIn 90 = .ok (.isub, 1) := by decide +kernel
theorem dX11_outputsIn_91 : decode cX11_outputsIn 91 = .ok (.ireturn, 1) := by decide +kernel
theorem dX11_writesIn_0 : decode cX11_writesIn 0 = .ok (.iload_n 1, 1) := by decide +kernel
theorem dX11_writesIn_1 : decode cX11_writesIn 1 = .ok (.invokestatic 172, 3) := by decide +kernel
theorem dX11_writesIn_4 : decode cX11_writesIn 4 = .ok (.ifCond .eq 13, 3) := by decide +kernel
theorem dX11_writesIn_7 : decode cX11_writesIn 7 = .ok (.new 102, 3) := by decide +kernel
theorem dX11_writesIn_10 : decode cX11_writesIn 10 = .ok (.dup, 1) := by decide +kernel
theorem dX11_writesIn_11 : decode cX11_writesIn 11 = .ok (.ldc 176, 2) := by decide +kernel
theorem dX11_writesIn_13 : decode cX11_writesIn 13 = .ok (.invokespecial 106, 3) := by decide +kernel
theorem dX11_writesIn_16 : decode cX11_writesIn 16 = .ok (.athrow, 1) := by decide +kernel
theorem dX11_writesIn_17 : decode cX11_writesIn 17 = .ok (.iload_n 2, 1) := by decide +kernel
theorem dX11_writesIn_18 : decode cX11_writesIn 18 = .ok (.invokestatic 250, 3) := by decide +kernel
theorem dX11_writesIn_21 : decode cX11_writesIn 21 = .ok (.ifCond .eq 13, 3) := by decide +kernel
theorem dX11_writesIn_24 : decode cX11_writesIn 24 = .ok (.new 102, 3) := by decide +kernel
theorem dX11_writesIn_27 : decode cX11_writesIn 27 = .ok (.dup, 1) := by decide +kernel
theorem dX11_writesIn_28 : decode cX11_writesIn 28 = .ok (.ldc 253, 2) := by decide +kernel
theorem dX11_writesIn_30 : decode cX11_writesIn 30 = .ok (.invokespecial 106, 3) := by decide +kernel
theorem dX11_writesIn_33 : decode cX11_writesIn 33 = .ok (.athrow, 1) := by decide +kernel
theorem dX11_writesIn_34 : decode cX11_writesIn 34 = .ok (.aload_n 0, 1) := by decide +kernel
theorem dX11_writesIn_35 : decode cX11_writesIn 35 = .ok (.getfield 57, 3) := by decide +kernel
theorem dX11_writesIn_38 : decode cX11_writesIn 38 = .ok (.aload_n 0, 1) := by decide +kernel
theorem dX11_writesIn_39 : decode cX11_writesIn 39 = .ok (.getfield 53, 3) := by decide +kernel
theorem dX11_writesIn_42 : decode cX11_writesIn 42 = .ok (.invokevirtual 381, 3) := by decide +kernel
theorem dX11_writesIn_45 : decode cX11_writesIn 45 = .ok (.iconst 0, 1) := by decide +kernel
theorem dX11_writesIn_46 : decode cX11_writesIn 46 = .ok (.istore_n 3, 1) := by decide +kernel
theorem dX11_writesIn_47 : decode cX11_writesIn 47 = .ok (.iconst 0, 1) := by decide +kernel
theorem dX11_writesIn_48 : decode cX11_writesIn 48 = .ok (.istore 4, 2) := by decide +kernel
theorem dX11_writesIn_50 : decode cX11_writesIn 50 = .ok (.iconst 0, 1) := by decide +kernel
theorem dX11_writesIn_51 : decode cX11_writesIn 51 = .ok (.istore 5, 2) := by decide +kernel
theorem dX11_writesIn_53 : decode cX11_writesIn 53 = .ok (.iload 5, 2) := by decide +kernel
theorem dX11_writesIn_55 : decode cX11_writesIn 55 = .ok (.ldc_w 307, 3) := by decide +kernel
theorem dX11_writesIn_58 : decode cX11_writesIn 58 = .ok (.if_icmp .ge 47, 3) := by decide +kernel
theorem dX11_writesIn_61 : decode cX11_writesIn 61 = .ok (.iload_n 3, 1) := by decide +kernel
theorem dX11_writesIn_62 : decode cX11_writesIn 62 = .ok (.iload_n 2, 1) := by decide +kernel
theorem dX11_writesIn_63 : decode cX11_writesIn 63 = .ok (.if_icmp .ge 42, 3) := by decide +kernel
theorem dX11_writesIn_66 : decode cX11_writesIn 66 = .ok (.aload_n 0, 1) := by decide +kernel
theorem dX11_writesIn_67 : decode cX11_writesIn 67 = .ok (.getfield 57, 3) := by decide +kernel
theorem dX11_writesIn_70 : decode cX11_writesIn 70 = .ok (.invokevirtual 240, 3) := by decide +kernel
theorem dX11_writesIn_73 : decode cX11_writesIn 73 = .ok (.ifCond .ne 32, 3) := by decide +kernel
theorem dX11_writesIn_76 : decode cX11_writesIn 76 = .ok (.iload_n 3, 1) := by decide +kernel
theorem dX11_writesIn_77 : decode cX11_writesIn 77 = .ok (.aload_n 0, 1) := by decide +kernel
theorem dX11_writesIn_78 : decode cX11_writesIn 78 = .ok (.getfield 57, 3) := by decide +kernel
theorem dX11_writesIn_81 : decode cX11_writesIn 81 = .ok (.invokevirtual 247, 3) := by decide +kernel
theorem dX11_writesIn_84 : decode cX11_writesIn 84 = .ok (.iadd, 1) := by decide +kernel
theorem dX11_writesIn_85 : decode cX11_writesIn 85 = .ok (.istore_n 3, 1) := by decide +kernel
theorem dX11_writesIn_86 : decode cX11_writesIn 86 = .ok (.iload 4, 2) := by decide +kernel
theorem dX11_writesIn_88 : decode cX11_writesIn 88 = .ok (.aload_n 0, 1) := by decide +kernel
theorem dX11_writesIn_89 : decode cX11_writesIn 89 = .ok (.getfield 57, 3) := by decide +kernel
theorem dX11_writesIn_92 : decode cX11_writesIn 92 = .ok (.iload_n 1, 1) := by decide +kernel
theorem dX11_writesIn_93 : decode cX11_writesIn 93 = .ok (.invokevirtual 387, 3) := by decide +kernel
theorem dX11_writesIn_96 : decode cX11_writesIn 96 = .ok (.iadd, 1) := by decide +kernel
theorem dX11_writesIn_97 : decode cX11_writesIn 97 = .ok (.istore 4, 2) := by decide +kernel
theorem dX11_writesIn_99 : decode cX11_writesIn 99 = .ok (.iinc 5 1, 3) := by decide +kernel
theorem dX11_writesIn_102 : decode cX11_writesIn 102 = .ok (.goto (-49), 3) := by decide +kernel
theorem dX11_writesIn_105 : decode cX11_writesIn 105 = .ok (.iload 4, 2) := by decide +kernel
theorem dX11_writesIn_107 : decode cX11_writesIn 107 = .ok (.ireturn, 1) := by decide +kernel
theorem dX11_isCode_0 : decode cX11_isCode 0 = .ok (.iload_n 1, 1) := by decide +kernel
theorem dX11_isCode_1 : decode cX11_isCode 1 = .ok (.invokestatic 172, 3) := by decide +kernel
theorem dX11_isCode_4 : decode cX11_isCode 4 = .ok (.ifCond .eq 13, 3) := by decide +kernel
theorem dX11_isCode_7 : decode cX11_isCode 7 = .ok (.new 102, 3) := by decide +kernel
theorem dX11_isCode_10 : decode cX11_isCode 10 = .ok (.dup, 1) := by decide +kernel
theorem dX11_isCode_11 : decode cX11_isCode 11 = .ok (.ldc 176, 2) := by decide +kernel
theorem dX11_isCode_13 : decode cX11_isCode 13 = .ok (.invokespecial 106, 3) := by decide +kernel
theorem dX11_isCode_16 : decode cX11_isCode 16 = .ok (.athrow, 1) := by decide +kernel
theorem dX11_isCode_17 : decode cX11_isCode 17 = .ok (.aload_n 0, 1) := by decide +kernel
theorem dX11_isCode_18 : decode cX11_isCode 18 = .ok (.getfield 77, 3) := by decide +kernel
theorem dX11_isCode_21 : decode cX11_isCode 21 = .ok (.aload_n 0, 1) := by decide +kernel
theorem dX11_isCode_22 : decode cX11_isCode 22 = .ok (.getfield 53, 3) := by decide +kernel
theorem dX11_isCode_25 : decode cX11_isCode 25 = .ok (.invokevirtual 390, 3) := by decide +kernel
theorem dX11_isCode_28 : decode cX11_isCode 28 = .ok (.aload_n 0, 1) := by decide +kernel
theorem dX11_isCode_29 : decode cX11_isCode 29 = .ok (.getfield 77, 3) := by decide +kernel
theorem dX11_isCode_32 : decode cX11_isCode 32 = .ok (.getfield 393, 3) := by decide +kernel
theorem dX11_isCode_35 : decode cX11_isCode 35 = .ok (.iload_n 1, 1) := by decide +kernel
theorem dX11_isCode_36 : decode cX11_isCode 36 = .ok (.invokestatic 168, 3) := by decide +kernel
theorem dX11_isCode_39 : decode cX11_isCode 39 = .ok (.ifCond .eq 7, 3) := by decide +kernel
theorem dX11_isCode_42 : decode cX11_isCode 42 = .ok (.iconst 1, 1) := by decide +kernel
theorem dX11_isCode_43 : decode cX11_isCode 43 = .ok (.goto 4, 3) := by decide +kernel
theorem dX11_isCode_46 : decode cX11_isCode 46 = .ok (.iconst 0, 1) := by decide +kernel
theorem dX11_isCode_47 : decode cX11_isCode 47 = .ok (.ireturn, 1) := by decide +kernel
theorem dX11_codes_0 : decode cX11_codes 0 = .ok (.aload_n 0, 1) := by decide +kernel
theorem dX11_codes_1 : decode cX11_codes 1 = .ok (.getfield 77, 3) := by decide +kernel
theorem dX11_codes_4 : decode cX11_codes 4 = .ok (.aload_n 0, 1) := by decide +kernel
theorem dX11_codes_5 : decode cX11_codes 5 = .ok (.getfield 53, 3) := by decide +kernel
theorem dX11_codes_8 : decode cX11_codes 8 = .ok (.invokevirtual 390, 3) := by decide +kernel
theorem dX11_codes_11 : decode cX11_codes 11 = .ok (.aload_n 0, 1) := by decide +kernel
theorem dX11_codes_12 : decode cX11_codes 12 = .ok (.getfield 77, 3) := by decide +kernel
theorem dX11_codes_15 : decode cX11_codes 15 = .ok (.getfield 396, 3) := by decide +kernel
theorem dX11_codes_18 : decode cX11_codes 18 = .ok (.ireturn, 1) := by decide +kernel
theorem dX11_meanCycles_0 : decode cX11_meanCycles 0 = .ok (.aload_n 0, 1) := by decide +kernel
theorem dX11_meanCycles_1 : decode cX11_meanCycles 1 = .ok (.getfield 53, 3) := by decide +kernel
theorem dX11_meanCycles_4 : decode cX11_meanCycles 4 = .ok (.getfield 337, 3) := by decide +kernel
theorem dX11_meanCycles_7 : decode cX11_meanCycles 7 = .ok (.ifCond .ne 5, 3) := by decide +kernel
theorem dX11_meanCycles_10 : decode cX11_meanCycles 10 = .ok (.dconst 0, 1) := by decide +kernel
theorem dX11_meanCycles_11 : decode cX11_meanCycles 11 = .ok (.dreturn, 1) := by decide +kernel
theorem dX11_meanCycles_12 : decode cX11_meanCycles 12 = .ok (.aload_n 0, 1) := by decide +kernel
theorem dX11_meanCycles_13 : decode cX11_meanCycles 13 = .ok (.getfield 53, 3) := by decide +kernel
theorem dX11_meanCycles_16 : decode cX11_meanCycles 16 = .ok (.getfield 334, 3) := by decide +kernel
theorem dX11_meanCycles_19 : decode cX11_meanCycles 19 = .ok (.i2d, 1) := by decide +kernel
theorem dX11_meanCycles_20 : decode cX11_meanCycles 20 = .ok (.aload_n 0, 1) := by decide +kernel
theorem dX11_meanCycles_21 : decode cX11_meanCycles 21 = .ok (.getfield 53, 3) := by decide +kernel
theorem dX11_meanCycles_24 : decode cX11_meanCycles 24 = .ok (.getfield 337, 3) := by decide +kernel
theorem dX11_meanCycles_27 : decode cX11_meanCycles 27 = .ok (.i2d, 1) := by decide +kernel
theorem dX11_meanCycles_28 : decode cX11_meanCycles 28 = .ok (.ddiv, 1) := by decide +kernel
theorem dX11_meanCycles_29 : decode cX11_meanCycles 29 = .ok (.dreturn, 1) := by decide +kernel
theorem dX11_digest_0 : decode cX11_digest 0 = .ok (.aload_n 0, 1) := by decide +kernel
theorem dX11_digest_1 : decode cX11_digest 1 = .ok (.getfield 77, 3) := by decide +kernel
theorem dX11_digest_4 : decode cX11_digest 4 = .ok (.aload_n 0, 1) := by decide +kernel
theorem dX11_digest_5 : decode cX11_digest 5 = .ok (.getfield 53, 3) := by decide +kernel
theorem dX11_digest_8 : decode cX11_digest 8 = .ok (.invokevirtual 390, 3) := by decide +kernel
theorem dX11_digest_11 : decode cX11_digest 11 = .ok (.aload_n 0, 1) := by decide +kernel
theorem dX11_digest_12 : decode cX11_digest 12 = .ok (.getfield 53, 3) := by decide +kernel
theorem dX11_digest_15 : decode cX11_digest 15 = .ok (.ldc2_w 399, 3) := by decide +kernel
theorem dX11_digest_18 : decode cX11_digest 18 = .ok (.invokevirtual 401, 3) := by decide +kernel
theorem dX11_digest_21 : decode cX11_digest 21 = .ok (.lstore_n 1, 1) := by decide +kernel
theorem dX11_digest_22 : decode cX11_digest 22 = .ok (.aload_n 0, 1) := by decide +kernel
theorem dX11_digest_23 : decode cX11_digest 23 = .ok (.getfield 53, 3) := by decide +kernel
theorem dX11_digest_26 : decode cX11_digest 26 = .ok (.getfield 185, 3) := by decide +kernel
theorem dX11_digest_29 : decode cX11_digest 29 = .ok (.lload_n 1, 1) := by decide +kernel
theorem dX11_digest_30 : decode cX11_digest 30 = .ok (.invokevirtual 405, 3) := by decide +kernel
theorem dX11_digest_33 : decode cX11_digest 33 = .ok (.lstore_n 1, 1) := by decide +kernel
theorem dX11_digest_34 : decode cX11_digest 34 = .ok (.lload_n 1, 1) := by decide +kernel
theorem dX11_digest_35 : decode cX11_digest 35 = .ok (.ldc2_w 408, 3) := by decide +kernel
theorem dX11_digest_38 : decode cX11_digest 38 = .ok (.lmul, 1) := by decide +kernel
theorem dX11_digest_39 : decode cX11_digest 39 = .ok (.aload_n 0, 1) := by decide +kernel
theorem dX11_digest_40 : decode cX11_digest 40 = .ok (.getfield 70, 3) := by decide +kernel
theorem dX11_digest_43 : decode cX11_digest 43 = .ok (.getfield 198, 3) := by decide +kernel
theorem dX11_digest_46 : decode cX11_digest 46 = .ok (.i2l, 1) := by decide +kernel
theorem dX11_digest_47 : decode cX11_digest 47 = .ok (.ladd, 1) := by decide +kernel
theorem dX11_digest_48 : decode cX11_digest 48 = .ok (.lstore_n 1, 1) := by decide +kernel
theorem dX11_digest_49 : decode cX11_digest 49 = .ok (.lload_n 1, 1) := by decide +kernel
theorem dX11_digest_50 : decode cX11_digest 50 = .ok (.ldc2_w 408, 3) := by decide +kernel
theorem dX11_digest_53 : decode cX11_digest 53 = .ok (.lmul, 1) := by decide +kernel
theorem dX11_digest_54 : decode cX11_digest 54 = .ok (.aload_n 0, 1) := by decide +kernel
theorem dX11_digest_55 : decode cX11_digest 55 = .ok (.getfield 63, 3) := by decide +kernel
theorem dX11_digest_58 : decode cX11_digest 58 = .ok (.getfield 277, 3) := by decide +kernel
theorem dX11_digest_61 : decode cX11_digest 61 = .ok (.i2l, 1) := by decide +kernel
theorem dX11_digest_62 : decode cX11_digest 62 = .ok (.ladd, 1) := by decide +kernel
theorem dX11_digest_63 : decode cX11_digest 63 = .ok (.lstore_n 1, 1) := by decide +kernel
theorem dX11_digest_64 : decode cX11_digest 64 = .ok (.aload_n 0, 1) := by decide +kernel
theorem dX11_digest_65 : decode cX11_digest 65 = .ok (.getfield 53, 3) := by decide +kernel
theorem dX11_digest_68 : decode cX11_digest 68 = .ok (.lload_n 1, 1) := by decide +kernel
theorem dX11_digest_69 : decode cX11_digest 69 = .ok (.invokevirtual 410, 3) := by decide +kernel
theorem dX11_digest_72 : decode cX11_digest 72 = .ok (.lstore_n 1, 1) := by decide +kernel
theorem dX11_digest_73 : decode cX11_digest 73 = .ok (.aload_n 0, 1) := by decide +kernel
theorem dX11_digest_74 : decode cX11_digest 74 = .ok (.getfield 19, 3) := by decide +kernel
theorem dX11_digest_77 : decode cX11_digest 77 = .ok (.lload_n 1, 1) := by decide +kernel
theorem dX11_digest_78 : decode cX11_digest 78 = .ok (.invokevirtual 413, 3) := by decide +kernel
theorem dX11_digest_81 : decode cX11_digest 81 = .ok (.lstore_n 1, 1) := by decide +kernel
theorem dX11_digest_82 : decode cX11_digest 82 = .ok (.lload_n 1, 1) := by decide +kernel
theorem dX11_digest_83 : decode cX11_digest 83 = .ok (.ldc2_w 408, 3) := by decide +kernel
theorem dX11_digest_86 : decode cX11_digest 86 = .ok (.lmul, 1) := by decide +kernel
theorem dX11_digest_87 : decode cX11_digest 87 = .ok (.aload_n 0, 1) := by decide +kernel
theorem dX11_digest_88 : decode cX11_digest 88 = .ok (.getfield 53, 3) := by decide +kernel
theorem dX11_digest_91 : decode cX11_digest 91 = .ok (.invokevirtual 372, 3) := by decide +kernel
theorem dX11_digest_94 : decode cX11_digest 94 = .ok (.i2l, 1) := by decide +kernel
theorem dX11_digest_95 : decode cX11_digest 95 = .ok (.ladd, 1) := by decide +kernel
theorem dX11_digest_96 : decode cX11_digest 96 = .ok (.lstore_n 1, 1) := by decide +kernel
theorem dX11_digest_97 : decode cX11_digest 97 = .ok (.lload_n 1, 1) := by decide +kernel
theorem dX11_digest_98 : decode cX11_digest 98 = .ok (.ldc2_w 408, 3) := by decide +kernel
theorem dX11_digest_101 : decode cX11_digest 101 = .ok (.lmul, 1) := by decide +kernel
theorem dX11_digest_102 : decode cX11_digest 102 = .ok (.aload_n 0, 1) := by decide +kernel
theorem dX11_digest_103 : decode cX11_digest 103 = .ok (.getfield 77, 3) := by decide +kernel
theorem dX11_digest_106 : decode cX11_digest 106 = .ok (.getfield 396, 3) := by decide +kernel
theorem dX11_digest_109 : decode cX11_digest 109 = .ok (.i2l, 1) := by decide +kernel
theorem dX11_digest_110 : decode cX11_digest 110 = .ok (.ladd, 1) := by decide +kernel
theorem dX11_digest_111 : decode cX11_digest 111 = .ok (.lstore_n 1, 1) := by decide +kernel
theorem dX11_digest_112 : decode cX11_digest 112 = .ok (.iconst 0, 1) := by decide +kernel
theorem dX11_digest_113 : decode cX11_digest 113 = .ok (.istore_n 3, 1) := by decide +kernel
theorem dX11_digest_114 : decode cX11_digest 114 = .ok (.iload_n 3, 1) := by decide +kernel
theorem dX11_digest_115 : decode cX11_digest 115 = .ok (.sipush 11008, 3) := by decide +kernel
theorem dX11_digest_118 : decode cX11_digest 118 = .ok (.if_icmp .ge 28, 3) := by decide +kernel
theorem dX11_digest_121 : decode cX11_digest 121 = .ok (.lload_n 1, 1) := by decide +kernel
theorem dX11_digest_122 : decode cX11_digest 122 = .ok (.ldc2_w 408, 3) := by decide +kernel
theorem dX11_digest_125 : decode cX11_digest 125 = .ok (.lmul, 1) := by decide +kernel
theorem dX11_digest_126 : decode cX11_digest 126 = .ok (.aload_n 0, 1) := by decide +kernel
theorem dX11_digest_127 : decode cX11_digest 127 = .ok (.getfield 53, 3) := by decide +kernel
theorem dX11_digest_130 : decode cX11_digest 130 = .ok (.getfield 144, 3) := by decide +kernel
theorem dX11_digest_133 : decode cX11_digest 133 = .ok (.iload_n 3, 1) := by decide +kernel
theorem dX11_digest_134 : decode cX11_digest 134 = .ok (.invokestatic 168, 3) := by decide +kernel
theorem dX11_digest_137 : decode cX11_digest 137 = .ok (.i2l, 1) := by decide +kernel
theorem dX11_digest_138 : decode cX11_digest 138 = .ok (.ladd, 1) := by decide +kernel
theorem dX11_digest_139 : decode cX11_digest 139 = .ok (.lstore_n 1, 1) := by decide +kernel
theorem dX11_digest_140 : decode cX11_digest 140 = .ok (.iinc 3 1, 3) := by decide +kernel
theorem dX11_digest_143 : decode cX11_digest 143 = .ok (.goto (-29), 3) := by decide +kernel
theorem dX11_digest_146 : decode cX11_digest 146 = .ok (.aload_n 0, 1) := by decide +kernel
theorem dX11_digest_147 : decode cX11_digest 147 = .ok (.getfield 53, 3) := by decide +kernel
theorem dX11_digest_150 : decode cX11_digest 150 = .ok (.getfield 185, 3) := by decide +kernel
theorem dX11_digest_153 : decode cX11_digest 153 = .ok (.lload_n 1, 1) := by decide +kernel
theorem dX11_digest_154 : decode cX11_digest 154 = .ok (.invokevirtual 416, 3) := by decide +kernel
theorem dX11_digest_157 : decode cX11_digest 157 = .ok (.lreturn, 1) := by decide +kernel
theorem dX11_isNoAddress_0 : decode cX11_isNoAddress 0 = .ok (.iload_n 0, 1) := by decide +kernel
theorem dX11_isNoAddress_1 : decode cX11_isNoAddress 1 = .ok (.ifCond .lt 10, 3) := by decide +kernel
theorem dX11_isNoAddress_4 : decode cX11_isNoAddress 4 = .ok (.iload_n 0, 1) := by decide +kernel
theorem dX11_isNoAddress_5 : decode cX11_isNoAddress 5 = .ok (.sipush 4095, 3) := by decide +kernel
theorem dX11_isNoAddress_8 : decode cX11_isNoAddress 8 = .ok (.if_icmp .le 7, 3) := by decide +kernel
theorem dX11_isNoAddress_11 : decode cX11_isNoAddress 11 = .ok (.iconst 1, 1) := by decide +kernel
theorem dX11_isNoAddress_12 : decode cX11_isNoAddress 12 = .ok (.goto 4, 3) := by decide +kernel
theorem dX11_isNoAddress_15 : decode cX11_isNoAddress 15 = .ok (.iconst 0, 1) := by decide +kernel
theorem dX11_isNoAddress_16 : decode cX11_isNoAddress 16 = .ok (.ireturn, 1) := by decide +kernel
theorem dX11_isNoByte_0 : decode cX11_isNoByte 0 = .ok (.iload_n 0, 1) := by decide +kernel
theorem dX11_isNoByte_1 : decode cX11_isNoByte 1 = .ok (.ifCond .lt 10, 3) := by decide +kernel
theorem dX11_isNoByte_4 : decode cX11_isNoByte 4 = .ok (.iload_n 0, 1) := by decide +kernel
theorem dX11_isNoByte_5 : decode cX11_isNoByte 5 = .ok (.sipush 255, 3) := by decide +kernel
theorem dX11_isNoByte_8 : decode cX11_isNoByte 8 = .ok (.if_icmp .le 7, 3) := by decide +kernel
theorem dX11_isNoByte_11 : decode cX11_isNoByte 11 = .ok (.iconst 1, 1) := by decide +kernel
theorem dX11_isNoByte_12 : decode cX11_isNoByte 12 = .ok (.goto 4, 3) := by decide +kernel
theorem dX11_isNoByte_15 : decode cX11_isNoByte 15 = .ok (.iconst 0, 1) := by decide +kernel
theorem dX11_isNoByte_16 : decode cX11_isNoByte 16 = .ok (.ireturn, 1) := by decide +kernel
theorem dX11_isNoSpan_0 : decode cX11_isNoSpan 0 = .ok (.iload_n 0, 1) := by decide +kernel
theorem dX11_isNoSpan_1 : decode cX11_isNoSpan 1 = .ok (.iconst 1, 1) := by decide +kernel
theorem dX11_isNoSpan_2 : decode cX11_isNoSpan 2 = .ok (.if_icmp .lt 10, 3) := by decide +kernel
theorem dX11_isNoSpan_5 : decode cX11_isNoSpan 5 = .ok (.iload_n 0, 1) := by decide +kernel
theorem dX11_isNoSpan_6 : decode cX11_isNoSpan 6 = .ok (.sipush 5000, 3) := by decide +kernel
theorem dX11_isNoSpan_9 : decode cX11_isNoSpan 9 = .ok (.if_icmp .le 7, 3) := by decide +kernel
theorem dX11_isNoSpan_12 : decode cX11_isNoSpan 12 = .ok (.iconst 1, 1) := by decide +kernel
theorem dX11_isNoSpan_13 : decode cX11_isNoSpan 13 = .ok (.goto 4, 3) := by decide +kernel
theorem dX11_isNoSpan_16 : decode cX11_isNoSpan 16 = .ok (.iconst 0, 1) := by decide +kernel
theorem dX11_isNoSpan_17 : decode cX11_isNoSpan 17 = .ok (.ireturn, 1) := by decide +kernel
theorem dX11_isPort_0 : decode cX11_isPort 0 = .ok (.iload_n 0, 1) := by decide +kernel
theorem dX11_isPort_1 : decode cX11_isPort 1 = .ok (.sipush 1792, 3) := by decide +kernel
theorem dX11_isPort_4 : decode cX11_isPort 4 = .ok (.if_icmp .lt 14, 3) := by decide +kernel
theorem dX11_isPort_7 : decode cX11_isPort 7 = .ok (.iload_n 0, 1) := by decide +kernel
theorem dX11_isPort_8 : decode cX11_isPort 8 = .ok (.sipush 2048, 3) := by decide +kernel
theorem dX11_isPort_11 : decode cX11_isPort 11 = .ok (.if_icmp .ge 7, 3) := by decide +kernel
theorem dX11_isPort_14 : decode cX11_isPort 14 = .ok (.iconst 1, 1) := by decide +kernel
theorem dX11_isPort_15 : decode cX11_isPort 15 = .ok (.goto 4, 3) := by decide +kernel
theorem dX11_isPort_18 : decode cX11_isPort 18 = .ok (.iconst 0, 1) := by decide +kernel
theorem dX11_isPort_19 : decode cX11_isPort 19 = .ok (.ireturn, 1) := by decide +kernel
theorem dX11_at_0 : decode cX11_at 0 = .ok (.iload_n 1, 1) := by decide +kernel
theorem dX11_at_1 : decode cX11_at 1 = .ok (.ifCond .lt 15, 3) := by decide +kernel
theorem dX11_at_4 : decode cX11_at 4 = .ok (.iload_n 1, 1) := by decide +kernel
theorem dX11_at_5 : decode cX11_at 5 = .ok (.aload_n 0, 1) := by decide +kernel
theorem dX11_at_6 : decode cX11_at 6 = .ok (.arraylength, 1) := by decide +kernel
theorem dX11_at_7 : decode cX11_at 7 = .ok (.if_icmp .ge 9, 3) := by decide +kernel
theorem dX11_at_10 : decode cX11_at 10 = .ok (.aload_n 0, 1) := by decide +kernel
theorem dX11_at_11 : decode cX11_at 11 = .ok (.iload_n 1, 1) := by decide +kernel
theorem dX11_at_12 : decode cX11_at 12 = .ok (.iaload, 1) := by decide +kernel
theorem dX11_at_13 : decode cX11_at 13 = .ok (.goto 4, 3) := by decide +kernel
theorem dX11_at_16 : decode cX11_at 16 = .ok (.iconst 0, 1) := by decide +kernel
theorem dX11_at_17 : decode cX11_at 17 = .ok (.ireturn, 1) := by decide +kernel
theorem dX11_at__0 : decode cX11_at_ 0 = .ok (.iload_n 1, 1) := by decide +kernel
theorem dX11_at__1 : decode cX11_at_ 1 = .ok (.ifCond .lt 15, 3) := by decide +kernel
theorem dX11_at__4 : decode cX11_at_ 4 = .ok (.iload_n 1, 1) := by decide +kernel
theorem dX11_at__5 : decode cX11_at_ 5 = .ok (.aload_n 0, 1) := by decide +kernel
theorem dX11_at__6 : decode cX11_at_ 6 = .ok (.arraylength, 1) := by decide +kernel
theorem dX11_at__7 : decode cX11_at_ 7 = .ok (.if_icmp .ge 9, 3) := by decide +kernel
theorem dX11_at__10 : decode cX11_at_ 10 = .ok (.aload_n 0, 1) := by decide +kernel
theorem dX11_at__11 : decode cX11_at_ 11 = .ok (.iload_n 1, 1) := by decide +kernel
theorem dX11_at__12 : decode cX11_at_ 12 = .ok (.laload, 1) := by decide +kernel
theorem dX11_at__13 : decode cX11_at_ 13 = .ok (.goto 4, 3) := by decide +kernel
theorem dX11_at__16 : decode cX11_at_ 16 = .ok (.lconst 0, 1) := by decide +kernel
theorem dX11_at__17 : decode cX11_at_ 17 = .ok (.lreturn, 1) := by decide +kernel
theorem dX11_put_0 : decode cX11_put 0 = .ok (.iload_n 1, 1) := by decide +kernel
theorem dX11_put_1 : decode cX11_put 1 = .ok (.ifCond .lt 13, 3) := by decide +kernel
theorem dX11_put_4 : decode cX11_put 4 = .ok (.iload_n 1, 1) := by decide +kernel
theorem dX11_put_5 : decode cX11_put 5 = .ok (.aload_n 0, 1) := by decide +kernel
theorem dX11_put_6 : decode cX11_put 6 = .ok (.arraylength, 1) := by decide +kernel
theorem dX11_put_7 : decode cX11_put 7 = .ok (.if_icmp .ge 7, 3) := by decide +kernel
theorem dX11_put_10 : decode cX11_put 10 = .ok (.aload_n 0, 1) := by decide +kernel
theorem dX11_put_11 : decode cX11_put 11 = .ok (.iload_n 1, 1) := by decide +kernel
theorem dX11_put_12 : decode cX11_put 12 = .ok (.iload_n 2, 1) := by decide +kernel
theorem dX11_put_13 : decode cX11_put 13 = .ok (.iastore, 1) := by decide +kernel
theorem dX11_put_14 : decode cX11_put 14 = .ok (.return_, 1) := by decide +kernel
theorem dX11_put__0 : decode cX11_put_ 0 = .ok (.iload_n 1, 1) := by decide +kernel
theorem dX11_put__1 : decode cX11_put_ 1 = .ok (.ifCond .lt 13, 3) := by decide +kernel
theorem dX11_put__4 : decode cX11_put_ 4 = .ok (.iload_n 1, 1) := by decide +kernel
theorem dX11_put__5 : decode cX11_put_ 5 = .ok (.aload_n 0, 1) := by decide +kernel
theorem dX11_put__6 : decode cX11_put_ 6 = .ok (.arraylength, 1) := by decide +kernel
theorem dX11_put__7 : decode cX11_put_ 7 = .ok (.if_icmp .ge 7, 3) := by decide +kernel
theorem dX11_put__10 : decode cX11_put_ 10 = .ok (.aload_n 0, 1) := by decide +kernel
theorem dX11_put__11 : decode cX11_put_ 11 = .ok (.iload_n 1, 1) := by decide +kernel
theorem dX11_put__12 : decode cX11_put_ 12 = .ok (.lload_n 2, 1) := by decide +kernel
theorem dX11_put__13 : decode cX11_put_ 13 = .ok (.lastore, 1) := by decide +kernel
theorem dX11_put__14 : decode cX11_put_ 14 = .ok (.return_, 1) := by decide +kernel
theorem dX11_placeOf_0 : decode cX11_placeOf 0 = .ok (.iload_n 0, 1) := by decide +kernel
theorem dX11_placeOf_1 : decode cX11_placeOf 1 = .ok (.sipush 1792, 3) := by decide +kernel
theorem dX11_placeOf_4 : decode cX11_placeOf 4 = .ok (.if_icmp .ge 5, 3) := by decide +kernel
theorem dX11_placeOf_7 : decode cX11_placeOf 7 = .ok (.iload_n 0, 1) := by decide +kernel
theorem dX11_placeOf_8 : decode cX11_placeOf 8 = .ok (.ireturn, 1) := by decide +kernel
theorem dX11_placeOf_9 : decode cX11_placeOf 9 = .ok (.iload_n 0, 1) := by decide +kernel
theorem dX11_placeOf_10 : decode cX11_placeOf 10 = .ok (.sipush 2048, 3) := by decide +kernel
theorem dX11_placeOf_13 : decode cX11_placeOf 13 = .ok (.if_icmp .ge 5, 3) := by decide +kernel
theorem dX11_placeOf_16 : decode cX11_placeOf 16 = .ok (.iconst (-1), 1) := by decide +kernel
theorem dX11_placeOf_17 : decode cX11_placeOf 17 = .ok (.ireturn, 1) := by decide +kernel
theorem dX11_placeOf_18 : decode cX11_placeOf 18 = .ok (.iload_n 0, 1) := by decide +kernel
theorem dX11_placeOf_19 : decode cX11_placeOf 19 = .ok (.sipush 3072, 3) := by decide +kernel
theorem dX11_placeOf_22 : decode cX11_placeOf 22 = .ok (.if_icmp .ge 19, 3) := by decide +kernel
theorem dX11_placeOf_25 : decode cX11_placeOf 25 = .ok (.sipush 1792, 3) := by decide +kernel
theorem dX11_placeOf_28 : decode cX11_placeOf 28 = .ok (.iload_n 1, 1) := by decide +kernel
theorem dX11_placeOf_29 : decode cX11_placeOf 29 = .ok (.sipush 1024, 3) := by decide +kernel
theorem dX11_placeOf_32 : decode cX11_placeOf 32 = .ok (.imul, 1) := by decide +kernel
theorem dX11_placeOf_33 : decode cX11_placeOf 33 = .ok (.iadd, 1) := by decide +kernel
theorem dX11_placeOf_34 : decode cX11_placeOf 34 = .ok (.iload_n 0, 1) := by decide +kernel
theorem dX11_placeOf_35 : decode cX11_placeOf 35 = .ok (.iadd, 1) := by decide +kernel
theorem dX11_placeOf_36 : decode cX11_placeOf 36 = .ok (.sipush 2048, 3) := by decide +kernel
theorem dX11_placeOf_39 : decode cX11_placeOf 39 = .ok (.isub, 1) := by decide +kernel
theorem dX11_placeOf_40 : decode cX11_placeOf 40 = .ok (.ireturn, 1) := by decide +kernel
theorem dX11_placeOf_41 : decode cX11_placeOf 41 = .ok (.sipush 9984, 3) := by decide +kernel
theorem dX11_placeOf_44 : decode cX11_placeOf 44 = .ok (.iload_n 0, 1) := by decide +kernel
theorem dX11_placeOf_45 : decode cX11_placeOf 45 = .ok (.iadd, 1) := by decide +kernel
theorem dX11_placeOf_46 : decode cX11_placeOf 46 = .ok (.sipush 3072, 3) := by decide +kernel
theorem dX11_placeOf_49 : decode cX11_placeOf 49 = .ok (.isub, 1) := by decide +kernel
theorem dX11_placeOf_50 : decode cX11_placeOf 50 = .ok (.ireturn, 1) := by decide +kernel
theorem dX11_hasMode_0 : decode cX11_hasMode 0 = .ok (.iload_n 0, 1) := by decide +kernel
theorem dX11_hasMode_1 : decode cX11_hasMode 1 = .ok (.bipush 24, 2) := by decide +kernel
theorem dX11_hasMode_3 : decode cX11_hasMode 3 = .ok (.if_icmp .lt 19, 3) := by decide +kernel
theorem dX11_hasMode_6 : decode cX11_hasMode 6 = .ok (.iload_n 1, 1) := by decide +kernel
theorem dX11_hasMode_7 : decode cX11_hasMode 7 = .ok (.iconst 3, 1) := by decide +kernel
theorem dX11_hasMode_8 : decode cX11_hasMode 8 = .ok (.if_icmp .lt 12, 3) := by decide +kernel
theorem dX11_hasMode_11 : decode cX11_hasMode 11 = .ok (.iload_n 1, 1) := by decide +kernel
theorem dX11_hasMode_12 : decode cX11_hasMode 12 = .ok (.iconst 5, 1) := by decide +kernel
theorem dX11_hasMode_13 : decode cX11_hasMode 13 = .ok (.if_icmp .gt 7, 3) := by decide +kernel
theorem dX11_hasMode_16 : decode cX11_hasMode 16 = .ok (.iconst 1, 1) := by decide +kernel
theorem dX11_hasMode_17 : decode cX11_hasMode 17 = .ok (.goto 4, 3) := by decide +kernel
theorem dX11_hasMode_20 : decode cX11_hasMode 20 = .ok (.iconst 0, 1) := by decide +kernel
theorem dX11_hasMode_21 : decode cX11_hasMode 21 = .ok (.ireturn, 1) := by decide +kernel
theorem dX11_hasMode_22 : decode cX11_hasMode 22 = .ok (.iload_n 0, 1) := by decide +kernel
theorem dX11_hasMode_23 : decode cX11_hasMode 23 = .ok (.bipush 16, 2) := by decide +kernel
theorem dX11_hasMode_25 : decode cX11_hasMode 25 = .ok (.if_icmp .ge 7, 3) := by decide +kernel
theorem dX11_hasMode_28 : decode cX11_hasMode 28 = .ok (.iconst 1, 1) := by decide +kernel
theorem dX11_hasMode_29 : decode cX11_hasMode 29 = .ok (.goto 4, 3) := by decide +kernel
theorem dX11_hasMode_32 : decode cX11_hasMode 32 = .ok (.iconst 2, 1) := by decide +kernel
theorem dX11_hasMode_33 : decode cX11_hasMode 33 = .ok (.istore_n 2, 1) := by decide +kernel
theorem dX11_hasMode_34 : decode cX11_hasMode 34 = .ok (.iload_n 1, 1) := by decide +kernel
theorem dX11_hasMode_35 : decode cX11_hasMode 35 = .ok (.iload_n 2, 1) := by decide +kernel
theorem dX11_hasMode_36 : decode cX11_hasMode 36 = .ok (.if_icmp .lt 13, 3) := by decide +kernel
theorem dX11_hasMode_39 : decode cX11_hasMode 39 = .ok (.iload_n 1, 1) := by decide +kernel
theorem dX11_hasMode_40 : decode cX11_hasMode 40 = .ok (.bipush 6, 2) := by decide +kernel
theorem dX11_hasMode_42 : decode cX11_hasMode 42 = .ok (.if_icmp .gt 7, 3) := by decide +kernel
theorem dX11_hasMode_45 : decode cX11_hasMode 45 = .ok (.iconst 1, 1) := by decide +kernel
theorem dX11_hasMode_46 : decode cX11_hasMode 46 = .ok (.goto 4, 3) := by decide +kernel
theorem dX11_hasMode_49 : decode cX11_hasMode 49 = .ok (.iconst 0, 1) := by decide +kernel
theorem dX11_hasMode_50 : decode cX11_hasMode 50 = .ok (.ireturn, 1) := by decide +kernel
theorem dX11_lengthOf_0 : decode cX11_lengthOf 0 = .ok (.iload_n 0, 1) := by decide +kernel
theorem dX11_lengthOf_1 : decode cX11_lengthOf 1 = .ok (.iconst 3, 1) := by decide +kernel
theorem dX11_lengthOf_2 : decode cX11_lengthOf 2 = .ok (.ishr, 1) := by decide +kernel
theorem dX11_lengthOf_3 : decode cX11_lengthOf 3 = .ok (.istore_n 1, 1) := by decide +kernel
theorem dX11_lengthOf_4 : decode cX11_lengthOf 4 = .ok (.iload_n 0, 1) := by decide +kernel
theorem dX11_lengthOf_5 : decode cX11_lengthOf 5 = .ok (.bipush 7, 2) := by decide +kernel
theorem dX11_lengthOf_7 : decode cX11_lengthOf 7 = .ok (.iand, 1) := by decide +kernel
theorem dX11_lengthOf_8 : decode cX11_lengthOf 8 = .ok (.istore_n 2, 1) := by decide +kernel
theorem dX11_lengthOf_9 : decode cX11_lengthOf 9 = .ok (.iload_n 1, 1) := by decide +kernel
theorem dX11_lengthOf_10 : decode cX11_lengthOf 10 = .ok (.iconst 4, 1) := by decide +kernel
theorem dX11_lengthOf_11 : decode cX11_lengthOf 11 = .ok (.if_icmp .ge 5, 3) := by decide +kernel
theorem dX11_lengthOf_14 : decode cX11_lengthOf 14 = .ok (.iconst 1, 1) := by decide +kernel
theorem dX11_lengthOf_15 : decode cX11_lengthOf 15 = .ok (.ireturn, 1) := by decide +kernel
theorem dX11_lengthOf_16 : decode cX11_lengthOf 16 = .ok (.iload_n 0, 1) := by decide +kernel
theorem dX11_lengthOf_17 : decode cX11_lengthOf 17 = .ok (.sipush 208, 3) := by decide +kernel
theorem dX11_lengthOf_20 : decode cX11_lengthOf 20 = .ok (.if_icmp .lt 16, 3) := by decide +kernel
theorem dX11_lengthOf_23 : decode cX11_lengthOf 23 = .ok (.iload_n 0, 1) := by decide +kernel
theorem dX11_lengthOf_24 : decode cX11_lengthOf 24 = .ok (.sipush 217, 3) := by decide +kernel
theorem dX11_lengthOf_27 : decode cX11_lengthOf 27 = .ok (.if_icmp .gt 7, 3) := by decide +kernel
theorem dX11_lengthOf_30 : decode cX11_lengthOf 30 = .ok (.iconst 2, 1) := by decide +kernel
theorem dX11_lengthOf_31 : decode cX11_lengthOf 31 = .ok (.goto 4, 3) := by decide +kernel
theorem dX11_lengthOf_34 : decode cX11_lengthOf 34 = .ok (.iconst 0, 1) := by decide +kernel
theorem dX11_lengthOf_35 : decode cX11_lengthOf 35 = .ok (.ireturn, 1) := by decide +kernel
theorem dX11_lengthOf_36 : decode cX11_lengthOf 36 = .ok (.iload_n 1, 1) := by decide +kernel
theorem dX11_lengthOf_37 : decode cX11_lengthOf 37 = .ok (.iload_n 2, 1) := by decide +kernel
theorem dX11_lengthOf_38 : decode cX11_lengthOf 38 = .ok (.invokestatic 419, 3) := by decide +kernel
theorem dX11_lengthOf_41 : decode cX11_lengthOf 41 = .ok (.ifCond .ne 5, 3) := by decide +kernel
theorem dX11_lengthOf_44 : decode cX11_lengthOf 44 = .ok (.iconst 0, 1) := by decide +kernel
theorem dX11_lengthOf_45 : decode cX11_lengthOf 45 = .ok (.ireturn, 1) := by decide +kernel
theorem dX11_lengthOf_46 : decode cX11_lengthOf 46 = .ok (.iload_n 2, 1) := by decide +kernel
theorem dX11_lengthOf_47 : decode cX11_lengthOf 47 = .ok (.iconst 3, 1) := by decide +kernel
theorem dX11_lengthOf_48 : decode cX11_lengthOf 48 = .ok (.if_icmp .eq 8, 3) := by decide +kernel
theorem dX11_lengthOf_51 : decode cX11_lengthOf 51 = .ok (.iload_n 2, 1) := by decide +kernel
theorem dX11_lengthOf_52 : decode cX11_lengthOf 52 = .ok (.iconst 4, 1) := by decide +kernel
theorem dX11_lengthOf_53 : decode cX11_lengthOf 53 = .ok (.if_icmp .ne 7, 3) := by decide +kernel
theorem dX11_lengthOf_56 : decode cX11_lengthOf 56 = .ok (.iconst 3, 1) := by decide +kernel
theorem dX11_lengthOf_57 : decode cX11_lengthOf 57 = .ok (.goto 4, 3) := by decide +kernel
theorem dX11_lengthOf_60 : decode cX11_lengthOf 60 = .ok (.iconst 2, 1) := by decide +kernel
theorem dX11_lengthOf_61 : decode cX11_lengthOf 61 = .ok (.ireturn, 1) := by decide +kernel
theorem dX11_signed_0 : decode cX11_signed 0 = .ok (.iload_n 0, 1) := by decide +kernel
theorem dX11_signed_1 : decode cX11_signed 1 = .ok (.sipush 128, 3) := by decide +kernel
theorem dX11_signed_4 : decode cX11_signed 4 = .ok (.if_icmp .ge 7, 3) := by decide +kernel
theorem dX11_signed_7 : decode cX11_signed 7 = .ok (.iload_n 0, 1) := by decide +kernel
theorem dX11_signed_8 : decode cX11_signed 8 = .ok (.goto 8, 3) := by decide +kernel
theorem dX11_signed_11 : decode cX11_signed 11 = .ok (.iload_n 0, 1) := by decide +kernel
theorem dX11_signed_12 : decode cX11_signed 12 = .ok (.sipush 256, 3) := by decide +kernel
theorem dX11_signed_15 : decode cX11_signed 15 = .ok (.isub, 1) := by decide +kernel
theorem dX11_signed_16 : decode cX11_signed 16 = .ok (.ireturn, 1) := by decide +kernel
theorem dX11_entryOf_0 : decode cX11_entryOf 0 = .ok (.iconst 0, 1) := by decide +kernel
theorem dX11_entryOf_1 : decode cX11_entryOf 1 = .ok (.istore 4, 2) := by decide +kernel
theorem dX11_entryOf_3 : decode cX11_entryOf 3 = .ok (.iload 4, 2) := by decide +kernel
theorem dX11_entryOf_5 : decode cX11_entryOf 5 = .ok (.iconst 1, 1) := by decide +kernel
theorem dX11_entryOf_6 : decode cX11_entryOf 6 = .ok (.iadd, 1) := by decide +kernel
theorem dX11_entryOf_7 : decode cX11_entryOf 7 = .ok (.iload_n 1, 1) := by decide +kernel
theorem dX11_entryOf_8 : decode cX11_entryOf 8 = .ok (.imul, 1) := by decide +kernel
theorem dX11_entryOf_9 : decode cX11_entryOf 9 = .ok (.aload_n 0, 1) := by decide +kernel
theorem dX11_entryOf_10 : decode cX11_entryOf 10 = .ok (.invokevirtual 423, 3) := by decide +kernel
theorem dX11_entryOf_13 : decode cX11_entryOf 13 = .ok (.if_icmp .gt 68, 3) := by decide +kernel
theorem dX11_entryOf_16 : decode cX11_entryOf 16 = .ok (.lconst 0, 1) := by decide +kernel
theorem dX11_entryOf_17 : decode cX11_entryOf 17 = .ok (.lstore 5, 2) := by decide +kernel
theorem dX11_entryOf_19 : decode cX11_entryOf 19 = .ok (.iconst 0, 1) := by decide +kernel
theorem dX11_entryOf_20 : decode cX11_entryOf 20 = .ok (.istore 7, 2) := by decide +kernel
theorem dX11_entryOf_22 : decode cX11_entryOf 22 = .ok (.iload 7, 2) := by decide +kernel
theorem dX11_entryOf_24 : decode cX11_entryOf 24 = .ok (.iload_n 1, 1) := by decide +kernel
theorem dX11_entryOf_25 : decode cX11_entryOf 25 = .ok (.if_icmp .ge 40, 3) := by decide +kernel
theorem dX11_entryOf_28 : decode cX11_entryOf 28 = .ok (.aload_n 0, 1) := by decide +kernel
theorem dX11_entryOf_29 : decode cX11_entryOf 29 = .ok (.iload 4, 2) := by decide +kernel
theorem dX11_entryOf_31 : decode cX11_entryOf 31 = .ok (.iload_n 1, 1) := by decide +kernel
theorem dX11_entryOf_32 : decode cX11_entryOf 32 = .ok (.imul, 1) := by decide +kernel
theorem dX11_entryOf_33 : decode cX11_entryOf 33 = .ok (.iload 7, 2) := by decide +kernel
theorem dX11_entryOf_35 : decode cX11_entryOf 35 = .ok (.iadd, 1) := by decide +kernel
theorem dX11_entryOf_36 : decode cX11_entryOf 36 = .ok (.invokevirtual 427, 3) := by decide +kernel
theorem dX11_entryOf_39 : decode cX11_entryOf 39 = .ok (.istore 8, 2) := by decide +kernel
theorem dX11_entryOf_41 : decode cX11_entryOf 41 = .ok (.iload 8, 2) := by decide +kernel
theorem dX11_entryOf_43 : decode cX11_entryOf 43 = .ok (.bipush 32, 2) := by decide +kernel
theorem dX11_entryOf_45 : decode cX11_entryOf 45 = .ok (.if_icmp .eq 14, 3) := by decide +kernel
theorem dX11_entryOf_48 : decode cX11_entryOf 48 = .ok (.lload 5, 2) := by decide +kernel
theorem dX11_entryOf_50 : decode cX11_entryOf 50 = .ok (.bipush 8, 2) := by decide +kernel
theorem dX11_entryOf_52 : decode cX11_entryOf 52 = .ok (.lshl, 1) := by decide +kernel
theorem dX11_entryOf_53 : decode cX11_entryOf 53 = .ok (.iload 8, 2) := by decide +kernel
theorem dX11_entryOf_55 : decode cX11_entryOf 55 = .ok (.i2l, 1) := by decide +kernel
theorem dX11_entryOf_56 : decode cX11_entryOf 56 = .ok (.lor, 1) := by decide +kernel
theorem dX11_entryOf_57 : decode cX11_entryOf 57 = .ok (.lstore 5, 2) := by decide +kernel
theorem dX11_entryOf_59 : decode cX11_entryOf 59 = .ok (.iinc 7 1, 3) := by decide +kernel
theorem dX11_entryOf_62 : decode cX11_entryOf 62 = .ok (.goto (-40), 3) := by decide +kernel
theorem dX11_entryOf_65 : decode cX11_entryOf 65 = .ok (.lload 5, 2) := by decide +kernel
theorem dX11_entryOf_67 : decode cX11_entryOf 67 = .ok (.lload_n 2, 1) := by decide +kernel
theorem dX11_entryOf_68 : decode cX11_entryOf 68 = .ok (.lcmp, 1) := by decide +kernel
theorem dX11_entryOf_69 : decode cX11_entryOf 69 = .ok (.ifCond .ne 6, 3) := by decide +kernel
theorem dX11_entryOf_72 : decode cX11_entryOf 72 = .ok (.iload 4, 2) := by decide +kernel
theorem dX11_entryOf_74 : decode cX11_entryOf 74 = .ok (.ireturn, 1) := by decide +kernel
theorem dX11_entryOf_75 : decode cX11_entryOf 75 = .ok (.iinc 4 1, 3) := by decide +kernel
theorem dX11_entryOf_78 : decode cX11_entryOf 78 = .ok (.goto (-75), 3) := by decide +kernel
theorem dX11_entryOf_81 : decode cX11_entryOf 81 = .ok (.iconst (-1), 1) := by decide +kernel
theorem dX11_entryOf_82 : decode cX11_entryOf 82 = .ok (.ireturn, 1) := by decide +kernel
theorem dX12_init_0 : decode cX12_init 0 = .ok (.aload_n 0, 1) := by decide +kernel
theorem dX12_init_1 : decode cX12_init 1 = .ok (.invokespecial 3, 3) := by decide +kernel
theorem dX12_init_4 : decode cX12_init 4 = .ok (.aload_n 0, 1) := by decide +kernel
theorem dX12_init_5 : decode cX12_init 5 = .ok (.sipush 16205, 3) := by decide +kernel
theorem dX12_init_8 : decode cX12_init 8 = .ok (.newarray .int, 2) := by decide +kernel
theorem dX12_init_10 : decode cX12_init 10 = .ok (.putfield 9, 3) := by decide +kernel
theorem dX12_init_13 : decode cX12_init 13 = .ok (.aload_n 0, 1) := by decide +kernel
theorem dX12_init_14 : decode cX12_init 14 = .ok (.sipush 200, 3) := by decide +kernel
theorem dX12_init_17 : decode cX12_init 17 = .ok (.anewarray 13, 3) := by decide +kernel
theorem dX12_init_20 : decode cX12_init 20 = .ok (.putfield 14, 3) := by decide +kernel
theorem dX12_init_23 : decode cX12_init 23 = .ok (.aload_n 0, 1) := by decide +kernel
theorem dX12_init_24 : decode cX12_init 24 = .ok (.bipush 64, 2) := by decide +kernel
theorem dX12_init_26 : decode cX12_init 26 = .ok (.newarray .int, 2) := by decide +kernel
theorem dX12_init_28 : decode cX12_init 28 = .ok (.putfield 18, 3) := by decide +kernel
theorem dX12_init_31 : decode cX12_init 31 = .ok (.aload_n 0, 1) := by decide +kernel
theorem dX12_init_32 : decode cX12_init 32 = .ok (.iconst (-1), 1) := by decide +kernel
theorem dX12_init_33 : decode cX12_init 33 = .ok (.putfield 21, 3) := by decide +kernel
theorem dX12_init_36 : decode cX12_init 36 = .ok (.aload_n 0, 1) := by decide +kernel
theorem dX12_init_37 : decode cX12_init 37 = .ok (.bipush 6, 2) := by decide +kernel
theorem dX12_init_39 : decode cX12_init 39 = .ok (.newarray .int, 2) := by decide +kernel
theorem dX12_init_41 : decode cX12_init 41 = .ok (.putfield 25, 3) := by decide +kernel
theorem dX12_init_44 : decode cX12_init 44 = .ok (.aload_n 0, 1) := by decide +kernel
theorem dX12_init_45 : decode cX12_init 45 = .ok (.bipush 6, 2) := by decide +kernel
theorem dX12_init_47 : decode cX12_init 47 = .ok (.newarray .int, 2) := by decide +kernel
theorem dX12_init_49 : decode cX12_init 49 = .ok (.putfield 28, 3) := by decide +kernel
theorem dX12_init_52 : decode cX12_init 52 = .ok (.aload_n 0, 1) := by decide +kernel
theorem dX12_init_53 : decode cX12_init 53 = .ok (.iconst 4, 1) := by decide +kernel
theorem dX12_init_54 : decode cX12_init 54 = .ok (.newarray .int, 2) := by decide +kernel
theorem dX12_init_56 : decode cX12_init 56 = .ok (.putfield 31, 3) := by decide +kernel
theorem dX12_init_59 : decode cX12_init 59 = .ok (.aload_n 0, 1) := by decide +kernel
theorem dX12_init_60 : decode cX12_init 60 = .ok (.iconst 4, 1) := by decide +kernel
theorem dX12_init_61 : decode cX12_init 61 = .ok (.newarray .int, 2) := by decide +kernel
theorem dX12_init_63 : decode cX12_init 63 = .ok (.putfield 34, 3) := by decide +kernel
theorem dX12_init_66 : decode cX12_init 66 = .ok (.aload_n 0, 1) := by decide +kernel
theorem dX12_init_67 : decode cX12_init 67 = .ok (.iconst 4, 1) := by decide +kernel
theorem dX12_init_68 : decode cX12_init 68 = .ok (.newarray .boolean, 2) := by decide +kernel
theorem dX12_init_70 : decode cX12_init 70 = .ok (.putfield 37, 3) := by decide +kernel
theorem dX12_init_73 : decode cX12_init 73 = .ok (.aload_n 0, 1) := by decide +kernel
theorem dX12_init_74 : decode cX12_init 74 = .ok (.iconst 4, 1) := by decide +kernel
theorem dX12_init_75 : decode cX12_init 75 = .ok (.newarray .boolean, 2) := by decide +kernel
theorem dX12_init_77 : decode cX12_init 77 = .ok (.putfield 41, 3) := by decide +kernel
theorem dX12_init_80 : decode cX12_init 80 = .ok (.aload_n 0, 1) := by decide +kernel
theorem dX12_init_81 : decode cX12_init 81 = .ok (.sipush 2000, 3) := by decide +kernel
theorem dX12_init_84 : decode cX12_init 84 = .ok (.newarray .byte, 2) := by decide +kernel
theorem dX12_init_86 : decode cX12_init 86 = .ok (.putfield 44, 3) := by decide +kernel
theorem dX12_init_89 : decode cX12_init 89 = .ok (.aload_n 0, 1) := by decide +kernel
theorem dX12_init_90 : decode cX12_init 90 = .ok (.sipush 2200, 3) := by decide +kernel
theorem dX12_init_93 : decode cX12_init 93 = .ok (.newarray .int, 2) := by decide +kernel
theorem dX12_init_95 : decode cX12_init 95 = .ok (.putfield 48, 3) := by decide +kernel
theorem dX12_init_98 : decode cX12_init 98 = .ok (.aload_n 0, 1) := by decide +kernel
theorem dX12_init_99 : decode cX12_init 99 = .ok (.sipush 2200, 3) := by decide +kernel
theorem dX12_init_102 : decode cX12_init 102 = .ok (.newarray .int, 2) := by decide +kernel
theorem dX12_init_104 : decode cX12_init 104 = .ok (.putfield 51, 3) := by decide +kernel
theorem dX12_init_107 : decode cX12_init 107 = .ok (.aload_n 0, 1) := by decide +kernel
theorem dX12_init_108 : decode cX12_init 108 = .ok (.sipush 2200, 3) := by decide +kernel
theorem dX12_init_111 : decode cX12_init 111 = .ok (.newarray .int, 2) := by decide +kernel
theorem dX12_init_113 : decode cX12_init 113 = .ok (.putfield 54, 3) := by decide +kernel
theorem dX12_init_116 : decode cX12_init 116 = .ok (.aload_n 0, 1) := by decide +kernel
theorem dX12_init_117 : decode cX12_init 117 = .ok (.sipush 2200, 3) := by decide +kernel
theorem dX12_init_120 : decode cX12_init 120 = .ok (.newarray .int, 2) := by decide +kernel
theorem dX12_init_122 : decode cX12_init 122 = .ok (.putfield 57, 3) := by decide +kernel
theorem dX12_init_125 : decode cX12_init 125 = .ok (.aload_n 0, 1) := by decide +kernel
theorem dX12_init_126 : decode cX12_init 126 = .ok (.iconst (-1), 1) := by decide +kernel
theorem dX12_init_127 : decode cX12_init 127 = .ok (.putfield 60, 3) := by decide +kernel
theorem dX12_init_130 : decode cX12_init 130 = .ok (.aload_n 0, 1) := by decide +kernel
theorem dX12_init_131 : decode cX12_init 131 = .ok (.sipush 200, 3) := by decide +kernel
theorem dX12_init_134 : decode cX12_init 134 = .ok (.newarray .int, 2) := by decide +kernel
theorem dX12_init_136 : decode cX12_init 136 = .ok (.putfield 63, 3) := by decide +kernel
theorem dX12_init_139 : decode cX12_init 139 = .ok (.aload_n 0, 1) := by decide +kernel
theorem dX12_init_140 : decode cX12_init 140 = .ok (.sipush 200, 3) := by decide +kernel
theorem dX12_init_143 : decode cX12_init 143 = .ok (.newarray .int, 2) := by decide +kernel
theorem dX12_init_145 : decode cX12_init 145 = .ok (.putfield 66, 3) := by decide +kernel
theorem dX12_init_148 : decode cX12_init 148 = .ok (.aload_n 0, 1) := by decide +kernel
theorem dX12_init_149 : decode cX12_init 149 = .ok (.sipush 130, 3) := by decide +kernel
theorem dX12_init_152 : decode cX12_init 152 = .ok (.newarray .int, 2) := by decide +kernel
theorem dX12_init_154 : decode cX12_init 154 = .ok (.putfield 69, 3) := by decide +kernel
theorem dX12_init_157 : decode cX12_init 157 = .ok (.aload_n 0, 1) := by decide +kernel
theorem dX12_init_158 : decode cX12_init 158 = .ok (.sipush 130, 3) := by decide +kernel
theorem dX12_init_161 : decode cX12_init 161 = .ok (.newarray .boolean, 2) := by decide +kernel
theorem dX12_init_163 : decode cX12_init 163 = .ok (.putfield 72, 3) := by decide +kernel
theorem dX12_init_166 : decode cX12_init 166 = .ok (.aload_n 0, 1) := by decide +kernel
theorem dX12_init_167 : decode cX12_init 167 = .ok (.bipush 8, 2) := by decide +kernel
theorem dX12_init_169 : decode cX12_init 169 = .ok (.newarray .int, 2) := by decide +kernel
theorem dX12_init_171 : decode cX12_init 171 = .ok (.putfield 75, 3) := by decide +kernel
theorem dX12_init_174 : decode cX12_init 174 = .ok (.aload_n 0, 1) := by decide +kernel
theorem dX12_init_175 : decode cX12_init 175 = .ok (.sipush 11008, 3) := by decide +kernel
theorem dX12_init_178 : decode cX12_init 178 = .ok (.newarray .int, 2) := by decide +kernel
theorem dX12_init_180 : decode cX12_init 180 = .ok (.putfield 78, 3) := by decide +kernel
theorem dX12_init_183 : decode cX12_init 183 = .ok (.aload_n 0, 1) := by decide +kernel
theorem dX12_init_184 : decode cX12_init 184 = .ok (.sipush 11008, 3) := by decide +kernel
theorem dX12_init_187 : decode cX12_init 187 = .ok (.newarray .int, 2) := by decide +kernel
theorem dX12_init_189 : decode cX12_init 189 = .ok (.putfield 81, 3) := by decide +kernel
theorem dX12_init_192 : decode cX12_init 192 = .ok (.aload_n 0, 1) := by decide +kernel
theorem dX12_init_193 : decode cX12_init 193 = .ok (.sipush 11008, 3) := by decide +kernel
theorem dX12_init_196 : decode cX12_init 196 = .ok (.newarray .int, 2) := by decide +kernel
theorem dX12_init_198 : decode cX12_init 198 = .ok (.putfield 84, 3) := by decide +kernel
theorem dX12_init_201 : decode cX12_init 201 = .ok (.aload_n 0, 1) := by decide +kernel
theorem dX12_init_202 : decode cX12_init 202 = .ok (.sipush 200, 3) := by decide +kernel
theorem dX12_init_205 : decode cX12_init 205 = .ok (.newarray .int, 2) := by decide +kernel
theorem dX12_init_207 : decode cX12_init 207 = .ok (.putfield 87, 3) := by decide +kernel
theorem dX12_init_210 : decode cX12_init 210 = .ok (.aload_n 0, 1) := by decide +kernel
theorem dX12_init_211 : decode cX12_init 211 = .ok (.invokevirtual 90, 3) := by decide +kernel
theorem dX12_init_214 : decode cX12_init 214 = .ok (.return_, 1) := by decide +kernel
theorem dX12_thrown_0 : decode cX12_thrown 0 = .ok (.aload_n 0, 1) := by decide +kernel
theorem dX12_thrown_1 : decode cX12_thrown 1 = .ok (.getfield 93, 3) := by decide +kernel
theorem dX12_thrown_4 : decode cX12_thrown 4 = .ok (.ireturn, 1) := by decide +kernel
theorem dX12_refuse_0 : decode cX12_refuse 0 = .ok (.iload_n 1, 1) := by decide +kernel
theorem dX12_refuse_1 : decode cX12_refuse 1 = .ok (.ifCond .eq 15, 3) := by decide +kernel
theorem dX12_refuse_4 : decode cX12_refuse 4 = .ok (.aload_n 0, 1) := by decide +kernel
theorem dX12_refuse_5 : decode cX12_refuse 5 = .ok (.getfield 93, 3) := by decide +kernel
theorem dX12_refuse_8 : decode cX12_refuse 8 = .ok (.ifCond .ne 8, 3) := by decide +kernel
theorem dX12_refuse_11 : decode cX12_refuse 11 = .ok (.aload_n 0, 1) := by decide +kernel
theorem dX12_refuse_12 : decode cX12_refuse 12 = .ok (.iload_n 2, 1) := by decide +kernel
theorem dX12_refuse_13 : decode cX12_refuse 13 = .ok (.putfield 93, 3) := by decide +kernel
theorem dX12_refuse_16 : decode cX12_refuse 16 = .ok (.iload_n 1, 1) := by decide +kernel
theorem dX12_refuse_17 : decode cX12_refuse 17 = .ok (.ireturn, 1) := by decide +kernel
theorem dX12_isIn_0 : decode cX12_isIn 0 = .ok (.iload_n 0, 1) := by decide +kernel
theorem dX12_isIn_1 : decode cX12_isIn 1 = .ok (.iload_n 1, 1) := by decide +kernel
theorem dX12_isIn_2 : decode cX12_isIn 2 = .ok (.if_icmp .lt 12, 3) := by decide +kernel
theorem dX12_isIn_5 : decode cX12_isIn 5 = .ok (.iload_n 0, 1) := by decide +kernel
theorem dX12_isIn_6 : decode cX12_isIn 6 = .ok (.iload_n 2, 1) := by decide +kernel
theorem dX12_isIn_7 : decode cX12_isIn 7 = .ok (.if_icmp .gt 7, 3) := by decide +kernel
theorem dX12_isIn_10 : decode cX12_isIn 10 = .ok (.iconst 1, 1) := by decide +kernel
theorem dX12_isIn_11 : decode cX12_isIn 11 = .ok (.goto 4, 3) := by decide +kernel
theorem dX12_isIn_14 : decode cX12_isIn 14 = .ok (.iconst 0, 1) := by decide +kernel
theorem dX12_isIn_15 : decode cX12_isIn 15 = .ok (.ireturn, 1) := by decide +kernel
theorem dX12_isNot_0 : decode cX12_isNot 0 = .ok (.aload_n 0, 1) := by decide +kernel
theorem dX12_isNot_1 : decode cX12_isNot 1 = .ok (.iconst 0, 1) := by decide +kernel
theorem dX12_isNot_2 : decode cX12_isNot 2 = .ok (.putfield 93, 3) := by decide +kernel
theorem dX12_isNot_5 : decode cX12_isNot 5 = .ok (.aload_n 0, 1) := by decide +kernel
theorem dX12_isNot_6 : decode cX12_isNot 6 = .ok (.iload_n 1, 1) := by decide +kernel
theorem dX12_isNot_7 : decode cX12_isNot 7 = .ok (.iload_n 2, 1) := by decide +kernel
theorem dX12_isNot_8 : decode cX12_isNot 8 = .ok (.iload_n 3, 1) := by decide +kernel
theorem dX12_isNot_9 : decode cX12_isNot 9 = .ok (.invokestatic 96, 3) := by decide +kernel
theorem dX12_isNot_12 : decode cX12_isNot 12 = .ok (.ifCond .ne 7, 3) := by decide +kernel
theorem dX12_isNot_15 : decode cX12_isNot 15 = .ok (.iconst 1, 1) := by decide +kernel
theorem dX12_isNot_16 : decode cX12_isNot 16 = .ok (.goto 4, 3) := by decide +kernel
theorem dX12_isNot_19 : decode cX12_isNot 19 = .ok (.iconst 0, 1) := by decide +kernel
theorem dX12_isNot_20 : decode cX12_isNot 20 = .ok (.iconst 1, 1) := by decide +kernel
theorem dX12_isNot_21 : decode cX12_isNot 21 = .ok (.invokevirtual 100, 3) := by decide +kernel
theorem dX12_isNot_24 : decode cX12_isNot 24 = .ok (.ireturn, 1) := by decide +kernel
theorem dX12_put_0 : decode cX12_put 0 = .ok (.aload_n 0, 1) := by decide +kernel
theorem dX12_put_1 : decode cX12_put 1 = .ok (.getfield 104, 3) := by decide +kernel
theorem dX12_put_4 : decode cX12_put 4 = .ok (.ifCond .eq 83, 3) := by decide +kernel
theorem dX12_put_7 : decode cX12_put 7 = .ok (.aload_n 0, 1) := by decide +kernel
theorem dX12_put_8 : decode cX12_put 8 = .ok (.getfield 108, 3) := by decide +kernel
theorem dX12_put_11 : decode cX12_put 11 = .ok (.iconst 2, 1) := by decide +kernel
theorem dX12_put_12 : decode cX12_put 12 = .ok (.iadd, 1) := by decide +kernel
theorem dX12_put_13 : decode cX12_put 13 = .ok (.aload_n 0, 1) := by decide +kernel
theorem dX12_put_14 : decode cX12_put 14 = .ok (.getfield 18, 3) := by decide +kernel
theorem dX12_put_17 : decode cX12_put 17 = .ok (.arraylength, 1) := by decide +kernel
theorem dX12_put_18 : decode cX12_put 18 = .ok (.if_icmp .le 32, 3) := by decide +kernel
theorem dX12_put_21 : decode cX12_put 21 = .ok (.iconst 2, 1) := by decide +kernel
theorem dX12_put_22 : decode cX12_put 22 = .ok (.aload_n 0, 1) := by decide +kernel
theorem dX12_put_23 : decode cX12_put 23 = .ok (.getfield 18, 3) := by decide +kernel
theorem dX12_put_26 : decode cX12_put 26 = .ok (.arraylength, 1) := by decide +kernel
theorem dX12_put_27 : decode cX12_put 27 = .ok (.imul, 1) := by decide +kernel
theorem dX12_put_28 : decode cX12_put 28 = .ok (.newarray .int, 2) := by decide +kernel
theorem dX12_put_30 : decode cX12_put 30 = .ok (.astore_n 3, 1) := by decide +kernel
theorem dX12_put_31 : decode cX12_put 31 = .ok (.aload_n 0, 1) := by decide +kernel
theorem dX12_put_32 : decode cX12_put 32 = .ok (.getfield 18, 3) := by decide +kernel
theorem dX12_put_35 : decode cX12_put 35 = .ok (.iconst 0, 1) := by decide +kernel
theorem dX12_put_36 : decode cX12_put 36 = .ok (.aload_n 3, 1) := by decide +kernel
theorem dX12_put_37 : decode cX12_put 37 = .ok (.iconst 0, 1) := by decide +kernel
theorem dX12_put_38 : decode cX12_put 38 = .ok (.aload_n 0, 1) := by decide +kernel
theorem dX12_put_39 : decode cX12_put 39 = .ok (.getfield 108, 3) := by decide +kernel
theorem dX12_put_42 : decode cX12_put 42 = .ok (.invokestatic 111, 3) := by decide +kernel
theorem dX12_put_45 : decode cX12_put 45 = .ok (.aload_n 0, 1) := by decide +kernel
theorem dX12_put_46 : decode cX12_put 46 = .ok (.aload_n 3, 1) := by decide +kernel
theorem dX12_put_47 : decode cX12_put 47 = .ok (.putfield 18, 3) := by decide +kernel
theorem dX12_put_50 : decode cX12_put 50 = .ok (.aload_n 0, 1) := by decide +kernel
theorem dX12_put_51 : decode cX12_put 51 = .ok (.getfield 18, 3) := by decide +kernel
theorem dX12_put_54 : decode cX12_put 54 = .ok (.aload_n 0, 1) := by decide +kernel
theorem dX12_put_55 : decode cX12_put 55 = .ok (.getfield 108, 3) := by decide +kernel
theorem dX12_put_58 : decode cX12_put 58 = .ok (.iload_n 1, 1) := by decide +kernel
theorem dX12_put_59 : decode cX12_put 59 = .ok (.iastore, 1) := by decide +kernel
theorem dX12_put_60 : decode cX12_put 60 = .ok (.aload_n 0, 1) := by decide +kernel
theorem dX12_put_61 : decode cX12_put 61 = .ok (.getfield 18, 3) := by decide +kernel
theorem dX12_put_64 : decode cX12_put 64 = .ok (.aload_n 0, 1) := by decide +kernel
theorem dX12_put_65 : decode cX12_put 65 = .ok (.getfield 108, 3) := by decide +kernel
theorem dX12_put_68 : decode cX12_put 68 = .ok (.iconst 1, 1) := by decide +kernel
theorem dX12_put_69 : decode cX12_put 69 = .ok (.iadd, 1) := by decide +kernel
theorem dX12_put_70 : decode cX12_put 70 = .ok (.aload_n 0, 1) := by decide +kernel
theorem dX12_put_71 : decode cX12_put 71 = .ok (.getfield 9, 3) := by decide +kernel
theorem dX12_put_74 : decode cX12_put 74 = .ok (.iload_n 1, 1) := by decide +kernel
theorem dX12_put_75 : decode cX12_put 75 = .ok (.iaload, 1) := by decide +kernel
theorem dX12_put_76 : decode cX12_put 76 = .ok (.iastore, 1) := by decide +kernel
theorem dX12_put_77 : decode cX12_put 77 = .ok (.aload_n 0, 1) := by decide +kernel
theorem dX12_put_78 : decode cX12_put 78 = .ok (.dup, 1) := by decide +kernel
theorem dX12_put_79 : decode cX12_put 79 = .ok (.getfield 108, 3) := by decide +kernel
theorem dX12_put_82 : decode cX12_put 82 = .ok (.iconst 2, 1) := by decide +kernel
theorem dX12_put_83 : decode cX12_put 83 = .ok (.iadd, 1) := by decide +kernel
theorem dX12_put_84 : decode cX12_put 84 = .ok (.putfield 108, 3) := by decide +kernel
theorem dX12_put_87 : decode cX12_put 87 = .ok (.aload_n 0, 1) := by decide +kernel
theorem dX12_put_88 : decode cX12_put 88 = .ok (.getfield 9, 3) := by decide +kernel
theorem dX12_put_91 : decode cX12_put 91 = .ok (.iload_n 1, 1) := by decide +kernel
theorem dX12_put_92 : decode cX12_put 92 = .ok (.iload_n 2, 1) := by decide +kernel
theorem dX12_put_93 : decode cX12_put 93 = .ok (.iastore, 1) := by decide +kernel
theorem dX12_put_94 : decode cX12_put 94 = .ok (.return_, 1) := by decide +kernel
theorem dX12_isPort_0 : decode cX12_isPort 0 = .ok (.iload_n 0, 1) := by decide +kernel
theorem dX12_isPort_1 : decode cX12_isPort 1 = .ok (.sipush 1792, 3) := by decide +kernel
theorem dX12_isPort_4 : decode cX12_isPort 4 = .ok (.if_icmp .lt 14, 3) := by decide +kernel
theorem dX12_isPort_7 : decode cX12_isPort 7 = .ok (.iload_n 0, 1) := by decide +kernel
theorem dX12_isPort_8 : decode cX12_isPort 8 = .ok (.sipush 2048, 3) := by decide +kernel
theorem dX12_isPort_11 : decode cX12_isPort 11 = .ok (.if_icmp .ge 7, 3) := by decide +kernel
theorem dX12_isPort_14 : decode cX12_isPort 14 = .ok (.iconst 1, 1) := by decide +kernel
theorem dX12_isPort_15 : decode cX12_isPort 15 = .ok (.goto 4, 3) := by decide +kernel
theorem dX12_isPort_18 : decode cX12_isPort 18 = .ok (.iconst 0, 1) := by decide +kernel
theorem dX12_isPort_19 : decode cX12_isPort 19 = .ok (.ireturn, 1) := by decide +kernel
theorem dX12_place_0 : decode cX12_place 0 = .ok (.iload_n 1, 1) := by decide +kernel
theorem dX12_place_1 : decode cX12_place 1 = .ok (.sipush 1792, 3) := by decide +kernel
theorem dX12_place_4 : decode cX12_place 4 = .ok (.if_icmp .ge 11, 3) := by decide +kernel
theorem dX12_place_7 : decode cX12_place 7 = .ok (.sipush 1101, 3) := by decide +kernel
theorem dX12_place_10 : decode cX12_place 10 = .ok (.iload_n 1, 1) := by decide +kernel
theorem dX12_place_11 : decode cX12_place 11 = .ok (.iadd, 1) := by decide +kernel
theorem dX12_place_12 : decode cX12_place 12 = .ok (.goto 43, 3) := by decide +kernel
theorem dX12_place_15 : decode cX12_place 15 = .ok (.iload_n 1, 1) := by decide +kernel
theorem dX12_place_16 : decode cX12_place 16 = .ok (.sipush 3072, 3) := by decide +kernel
theorem dX12_place_19 : decode cX12_place 19 = .ok (.if_icmp .ge 27, 3) := by decide +kernel
theorem dX12_place_22 : decode cX12_place 22 = .ok (.sipush 2893, 3) := by decide +kernel
theorem dX12_place_25 : decode cX12_place 25 = .ok (.sipush 1024, 3) := by decide +kernel
theorem dX12_place_28 : decode cX12_place 28 = .ok (.aload_n 0, 1) := by decide +kernel
theorem dX12_place_29 : decode cX12_place 29 = .ok (.getfield 9, 3) := by decide +kernel
theorem dX12_place_32 : decode cX12_place 32 = .ok (.bipush 9, 2) := by decide +kernel
theorem dX12_place_34 : decode cX12_place 34 = .ok (.iaload, 1) := by decide +kernel
theorem dX12_place_35 : decode cX12_place 35 = .ok (.imul, 1) := by decide +kernel
theorem dX12_place_36 : decode cX12_place 36 = .ok (.iadd, 1) := by decide +kernel
theorem dX12_place_37 : decode cX12_place 37 = .ok (.iload_n 1, 1) := by decide +kernel
theorem dX12_place_38 : decode cX12_place 38 = .ok (.iadd, 1) := by decide +kernel
theorem dX12_place_39 : decode cX12_place 39 = .ok (.sipush 2048, 3) := by decide +kernel
theorem dX12_place_42 : decode cX12_place 42 = .ok (.isub, 1) := by decide +kernel
theorem dX12_place_43 : decode cX12_place 43 = .ok (.goto 12, 3) := by decide +kernel
theorem dX12_place_46 : decode cX12_place 46 = .ok (.sipush 11085, 3) := by decide +kernel
theorem dX12_place_49 : decode cX12_place 49 = .ok (.iload_n 1, 1) := by decide +kernel
theorem dX12_place_50 : decode cX12_place 50 = .ok (.iadd, 1) := by decide +kernel
theorem dX12_place_51 : decode cX12_place 51 = .ok (.sipush 3072, 3) := by decide +kernel
theorem dX12_place_54 : decode cX12_place 54 = .ok (.isub, 1) := by decide +kernel
theorem dX12_place_55 : decode cX12_place 55 = .ok (.ireturn, 1) := by decide +kernel
theorem dX12_code_0 : decode cX12_code 0 = .ok (.iload_n 1, 1) := by decide +kernel
theorem dX12_code_1 : decode cX12_code 1 = .ok (.sipush 4095, 3) := by decide +kernel
theorem dX12_code_4 : decode cX12_code 4 = .ok (.iand, 1) := by decide +kernel
theorem dX12_code_5 : decode cX12_code 5 = .ok (.invokestatic 117, 3) := by decide +kernel
theorem dX12_code_8 : decode cX12_code 8 = .ok (.ifCond .eq 7, 3) := by decide +kernel
theorem dX12_code_11 : decode cX12_code 11 = .ok (.iconst 0, 1) := by decide +kernel
theorem dX12_code_12 : decode cX12_code 12 = .ok (.goto 17, 3) := by decide +kernel
theorem dX12_code_15 : decode cX12_code 15 = .ok (.aload_n 0, 1) := by decide +kernel
theorem dX12_code_16 : decode cX12_code 16 = .ok (.getfield 9, 3) := by decide +kernel
theorem dX12_code_19 : decode cX12_code 19 = .ok (.aload_n 0, 1) := by decide +kernel
theorem dX12_code_20 : decode cX12_code 20 = .ok (.iload_n 1, 1) := by decide +kernel
theorem dX12_code_21 : decode cX12_code 21 = .ok (.sipush 4095, 3) := by decide +kernel
theorem dX12_code_24 : decode cX12_code 24 = .ok (.iand, 1) := by decide +kernel
theorem dX12_code_25 : decode cX12_code 25 = .ok (.invokevirtual 121, 3) := by decide +kernel
theorem dX12_code_28 : decode cX12_code 28 = .ok (.iaload, 1) := by decide +kernel
theorem dX12_code_29 : decode cX12_code 29 = .ok (.ireturn, 1) := by decide +kernel
theorem dX12_vector_0 : decode cX12_vector 0 = .ok (.aload_n 0, 1) := by decide +kernel
theorem dX12_vector_1 : decode cX12_vector 1 = .ok (.sipush 4080, 3) := by decide +kernel
theorem dX12_vector_4 : decode cX12_vector 4 = .ok (.iconst 2, 1) := by decide +kernel
theorem dX12_vector_5 : decode cX12_vector 5 = .ok (.iload_n 1, 1) := by decide +kernel
theorem dX12_vector_6 : decode cX12_vector 6 = .ok (.imul, 1) := by decide +kernel
theorem dX12_vector_7 : decode cX12_vector 7 = .ok (.iadd, 1) := by decide +kernel
theorem dX12_vector_8 : decode cX12_vector 8 = .ok (.invokevirtual 125, 3) := by decide +kernel
theorem dX12_vector_11 : decode cX12_vector 11 = .ok (.sipush 256, 3) := by decide +kernel
theorem dX12_vector_14 : decode cX12_vector 14 = .ok (.aload_n 0, 1) := by decide +kernel
theorem dX12_vector_15 : decode cX12_vector 15 = .ok (.sipush 4081, 3) := by decide +kernel
theorem dX12_vector_18 : decode cX12_vector 18 = .ok (.iconst 2, 1) := by decide +kernel
theorem dX12_vector_19 : decode cX12_vector 19 = .ok (.iload_n 1, 1) := by decide +kernel
theorem dX12_vector_20 : decode cX12_vector 20 = .ok (.imul, 1) := by decide +kernel
theorem dX12_vector_21 : decode cX12_vector 21 = .ok (.iadd, 1) := by decide +kernel
theorem dX12_vector_22 : decode cX12_vector 22 = .ok (.invokevirtual 125, 3) := by decide +kernel
theorem dX12_vector_25 : decode cX12_vector 25 = .ok (.imul, 1) := by decide +kernel
theorem dX12_vector_26 : decode cX12_vector 26 = .ok (.iadd, 1) := by decide +kernel
theorem dX12_vector_27 : decode cX12_vector 27 = .ok (.sipush 4095, 3) := by decide +kernel
theorem dX12_vector_30 : decode cX12_vector 30 = .ok (.iand, 1) := by decide +kernel
theorem dX12_vector_31 : decode cX12_vector 31 = .ok (.ireturn, 1) := by decide +kernel
theorem dX12_tick_0 : decode cX12_tick 0 = .ok (.aload_n 0, 1) := by decide +kernel
theorem dX12_tick_1 : decode cX12_tick 1 = .ok (.getfield 9, 3) := by decide +kernel
theorem dX12_tick_4 : decode cX12_tick 4 = .ok (.bipush 14, 2) := by decide +kernel
theorem dX12_tick_6 : decode cX12_tick 6 = .ok (.iaload, 1) := by decide +kernel
theorem dX12_tick_7 : decode cX12_tick 7 = .ok (.iconst 2, 1) := by decide +kernel
theorem dX12_tick_8 : decode cX12_tick 8 = .ok (.irem, 1) := by decide +kernel
theorem dX12_tick_9 : decode cX12_tick 9 = .ok (.ifCond .ne 4, 3) := by decide +kernel
theorem dX12_tick_12 : decode cX12_tick 12 = .ok (.return_, 1) := by decide +kernel
theorem dX12_tick_13 : decode cX12_tick 13 = .ok (.aload_n 0, 1) := by decide +kernel
theorem dX12_tick_14 : decode cX12_tick 14 = .ok (.bipush 12, 2) := by decide +kernel
theorem dX12_tick_16 : decode cX12_tick 16 = .ok (.aload_n 0, 1) := by decide +kernel
theorem dX12_tick_17 : decode cX12_tick 17 = .ok (.getfield 9, 3) := by decide +kernel
theorem dX12_tick_20 : decode cX12_tick 20 = .ok (.bipush 12, 2) := by decide +kernel
theorem dX12_tick_22 : decode cX12_tick 22 = .ok (.iaload, 1) := by decide +kernel
theorem dX12_tick_23 : decode cX12_tick 23 = .ok (.iconst 1, 1) := by decide +kernel
theorem dX12_tick_24 : decode cX12_tick 24 = .ok (.isub, 1) := by decide +kernel
theorem dX12_tick_25 : decode cX12_tick 25 = .ok (.invokevirtual 154, 3) := by decide +kernel
theorem dX12_tick_28 : decode cX12_tick 28 = .ok (.aload_n 0, 1) := by decide +kernel
theorem dX12_tick_29 : decode cX12_tick 29 = .ok (.getfield 9, 3) := by decide +kernel
theorem dX12_tick_32 : decode cX12_tick 32 = .ok (.bipush 12, 2) := by decide +kernel
theorem dX12_tick_34 : decode cX12_tick 34 = .ok (.iaload, 1) := by decide +kernel
theorem dX12_tick_35 : decode cX12_tick 35 = .ok (.ifCond .le 4, 3) := by decide +kernel
theorem dX12_tick_38 : decode cX12_tick 38 = .ok (.return_, 1) := by decide +kernel
theorem dX12_tick_39 : decode cX12_tick 39 = .ok (.aload_n 0, 1) := by decide +kernel
theorem dX12_tick_40 : decode cX12_tick 40 = .ok (.bipush 11, 2) := by decide +kernel
theorem dX12_tick_42 : decode cX12_tick 42 = .ok (.aload_n 0, 1) := by decide +kernel
theorem dX12_tick_43 : decode cX12_tick 43 = .ok (.getfield 9, 3) := by decide +kernel
theorem dX12_tick_46 : decode cX12_tick 46 = .ok (.bipush 11, 2) := by decide +kernel
theorem dX12_tick_48 : decode cX12_tick 48 = .ok (.iaload, 1) := by decide +kernel
theorem dX12_tick_49 : decode cX12_tick 49 = .ok (.iconst 1, 1) := by decide +kernel
theorem dX12_tick_50 : decode cX12_tick 50 = .ok (.ior, 1) := by decide +kernel
theorem dX12_tick_51 : decode cX12_tick 51 = .ok (.invokevirtual 154, 3) := by decide +kernel
theorem dX12_tick_54 : decode cX12_tick 54 = .ok (.aload_n 0, 1) := by decide +kernel
theorem dX12_tick_55 : decode cX12_tick 55 = .ok (.getfield 9, 3) := by decide +kernel
theorem dX12_tick_58 : decode cX12_tick 58 = .ok (.bipush 14, 2) := by decide +kernel
theorem dX12_tick_60 : decode cX12_tick 60 = .ok (.iaload, 1) := by decide +kernel
theorem dX12_tick_61 : decode cX12_tick 61 = .ok (.iconst 2, 1) := by decide +kernel
theorem dX12_tick_62 : decode cX12_tick 62 = .ok (.if_icmp .lt 10, 3) := by decide +kernel
theorem dX12_tick_65 : decode cX12_tick 65 = .ok (.aload_n 0, 1) := by decide +kernel
theorem dX12_tick_66 : decode cX12_tick 66 = .ok (.invokevirtual 175, 3) := by decide +kernel
theorem dX12_tick_69 : decode cX12_tick 69 = .ok (.goto 18, 3) := by decide +kernel
theorem dX12_tick_72 : decode cX12_tick 72 = .ok (.aload_n 0, 1) := by decide +kernel
theorem dX12_tick_73 : decode cX12_tick 73 = .ok (.bipush 14, 2) := by decide +kernel
theorem dX12_tick_75 : decode cX12_tick 75 = .ok (.aload_n 0, 1) := by decide +kernel
theorem dX12_tick_76 : decode cX12_tick 76 = .ok (.getfield 9, 3) := by decide +kernel
theorem dX12_tick_79 : decode cX12_tick 79 = .ok (.bipush 14, 2) := by decide +kernel
theorem dX12_tick_81 : decode cX12_tick 81 = .ok (.iaload, 1) := by decide +kernel
theorem dX12_tick_82 : decode cX12_tick 82 = .ok (.iconst 2, 1) := by decide +kernel
theorem dX12_tick_83 : decode cX12_tick 83 = .ok (.iand, 1) := by decide +kernel
theorem dX12_tick_84 : decode cX12_tick 84 = .ok (.invokevirtual 154, 3) := by decide +kernel
theorem dX12_tick_87 : decode cX12_tick 87 = .ok (.return_, 1) := by decide +kernel
theorem dX12_modesFrom_0 : decode cX12_modesFrom 0 = .ok (.iload_n 0, 1) := by decide +kernel
theorem dX12_modesFrom_1 : decode cX12_modesFrom 1 = .ok (.bipush 16, 2) := by decide +kernel
theorem dX12_modesFrom_3 : decode cX12_modesFrom 3 = .ok (.if_icmp .ge 7, 3) := by decide +kernel
theorem dX12_modesFrom_6 : decode cX12_modesFrom 6 = .ok (.iconst 1, 1) := by decide +kernel
theorem dX12_modesFrom_7 : decode cX12_modesFrom 7 = .ok (.goto 14, 3) := by decide +kernel
theorem dX12_modesFrom_10 : decode cX12_modesFrom 10 = .ok (.iload_n 0, 1) := by decide +kernel
theorem dX12_modesFrom_11 : decode cX12_modesFrom 11 = .ok (.bipush 24, 2) := by decide +kernel
theorem dX12_modesFrom_13 : decode cX12_modesFrom 13 = .ok (.if_icmp .ge 7, 3) := by decide +kernel
theorem dX12_modesFrom_16 : decode cX12_modesFrom 16 = .ok (.iconst 2, 1) := by decide +kernel
theorem dX12_modesFrom_17 : decode cX12_modesFrom 17 = .ok (.goto 4, 3) := by decide +kernel
theorem dX12_modesFrom_20 : decode cX12_modesFrom 20 = .ok (.iconst 3, 1) := by decide +kernel
theorem dX12_modesFrom_21 : decode cX12_modesFrom 21 = .ok (.ireturn, 1) := by decide +kernel
theorem dX12_modesTo_0 : decode cX12_modesTo 0 = .ok (.iload_n 0, 1) := by decide +kernel
theorem dX12_modesTo_1 : decode cX12_modesTo 1 = .ok (.bipush 24, 2) := by decide +kernel
theorem dX12_modesTo_3 : decode cX12_modesTo 3 = .ok (.if_icmp .ge 8, 3) := by decide +kernel
theorem dX12_modesTo_6 : decode cX12_modesTo 6 = .ok (.bipush 6, 2) := by decide +kernel
theorem dX12_modesTo_8 : decode cX12_modesTo 8 = .ok (.goto 4, 3) := by decide +kernel
theorem dX12_modesTo_11 : decode cX12_modesTo 11 = .ok (.iconst 5, 1) := by decide +kernel
theorem dX12_modesTo_12 : decode cX12_modesTo 12 = .ok (.ireturn, 1) := by decide +kernel
theorem dX12_isInstruction_0 : decode cX12_isInstruction 0 = .ok (.iload_n 0, 1) := by decide +kernel
theorem dX12_isInstruction_1 : decode cX12_isInstruction 1 = .ok (.bipush 8, 2) := by decide +kernel
theorem dX12_isInstruction_3 : decode cX12_isInstruction 3 = .ok (.idiv, 1) := by decide +kernel
theorem dX12_isInstruction_4 : decode cX12_isInstruction 4 = .ok (.istore_n 1, 1) := by decide +kernel
theorem dX12_isInstruction_5 : decode cX12_isInstruction 5 = .ok (.iload_n 0, 1) := by decide +kernel
theorem dX12_isInstruction_6 : decode cX12_isInstruction 6 = .ok (.bipush 8, 2) := by decide +kernel
theorem dX12_isInstruction_8 : decode cX12_isInstruction 8 = .ok (.irem, 1) := by decide +kernel
theorem dX12_isInstruction_9 : decode cX12_isInstruction 9 = .ok (.istore_n 2, 1) := by decide +kernel
theorem dX12_isInstruction_10 : decode cX12_isInstruction 10 = .ok (.iload_n 1, 1) := by decide +kernel
theorem dX12_isInstruction_11 : decode cX12_isInstruction 11 = .ok (.iconst 4, 1) := by decide +kernel
theorem dX12_isInstruction_12 : decode cX12_isInstruction 12 = .ok (.if_icmp .lt 9, 3) := by decide +kernel
theorem dX12_isInstruction_15 : decode cX12_isInstruction 15 = .ok (.iload_n 1, 1) := by decide +kernel
theorem dX12_isInstruction_16 : decode cX12_isInstruction 16 = .ok (.bipush 26, 2) := by decide +kernel
theorem dX12_isInstruction_18 : decode cX12_isInstruction 18 = .ok (.if_icmp .ne 5, 3) := by decide +kernel
theorem dX12_isInstruction_21 : decode cX12_isInstruction 21 = .ok (.iconst 1, 1) := by decide +kernel
theorem dX12_isInstruction_22 : decode cX12_isInstruction 22 = .ok (.ireturn, 1) := by decide +kernel
theorem dX12_isInstruction_23 : decode cX12_isInstruction 23 = .ok (.iload_n 1, 1) := by decide +kernel
theorem dX12_isInstruction_24 : decode cX12_isInstruction 24 = .ok (.bipush 27, 2) := by decide +kernel
theorem dX12_isInstruction_26 : decode cX12_isInstruction 26 = .ok (.if_icmp .ne 14, 3) := by decide +kernel
theorem dX12_isInstruction_29 : decode cX12_isInstruction 29 = .ok (.iload_n 2, 1) := by decide +kernel
theorem dX12_isInstruction_30 : decode cX12_isInstruction 30 = .ok (.iconst 2, 1) := by decide +kernel
theorem dX12_isInstruction_31 : decode cX12_isInstruction 31 = .ok (.if_icmp .ge 7, 3) := by decide +kernel
theorem dX12_isInstruction_34 : decode cX12_isInstruction 34 = .ok (.iconst 1, 1) := by decide +kernel
theorem dX12_isInstruction_35 : decode cX12_isInstruction 35 = .ok (.goto 4, 3) := by decide +kernel
theorem dX12_isInstruction_38 : decode cX12_isInstruction 38 = .ok (.iconst 0, 1) := by decide +kernel
theorem dX12_isInstruction_39 : decode cX12_isInstruction 39 = .ok (.ireturn, 1) := by decide +kernel
theorem dX12_isInstruction_40 : decode cX12_isInstruction 40 = .ok (.iload_n 1, 1) := by decide +kernel
theorem dX12_isInstruction_41 : decode cX12_isInstruction 41 = .ok (.bipush 26, 2) := by decide +kernel
theorem dX12_isInstruction_43 : decode cX12_isInstruction 43 = .ok (.if_icmp .ge 22, 3) := by decide +kernel
theorem dX12_isInstruction_46 : decode cX12_isInstruction 46 = .ok (.iload_n 2, 1) := by decide +kernel
theorem dX12_isInstruction_47 : decode cX12_isInstruction 47 = .ok (.iload_n 1, 1) := by decide +kernel
theorem dX12_isInstruction_48 : decode cX12_isInstruction 48 = .ok (.invokestatic 182, 3) := by decide +kernel
theorem dX12_isInstruction_51 : decode cX12_isInstruction 51 = .ok (.iload_n 1, 1) := by decide +kernel
theorem dX12_isInstruction_52 : decode cX12_isInstruction 52 = .ok (.invokestatic 185, 3) := by decide +kernel
theorem dX12_isInstruction_55 : decode cX12_isInstruction 55 = .ok (.invokestatic 96, 3) := by decide +kernel
theorem dX12_isInstruction_58 : decode cX12_isInstruction 58 = .ok (.ifCond .eq 7, 3) := by decide +kernel
theorem dX12_isInstruction_61 : decode cX12_isInstruction 61 = .ok (.iconst 1, 1) := by decide +kernel
theorem dX12_isInstruction_62 : decode cX12_isInstruction 62 = .ok (.goto 4, 3) := by decide +kernel
theorem dX12_isInstruction_65 : decode cX12_isInstruction 65 = .ok (.iconst 0, 1) := by decide +kernel
theorem dX12_isInstruction_66 : decode cX12_isInstruction 66 = .ok (.ireturn, 1) := by decide +kernel
theorem dX12_length_0 : decode cX12_length 0 = .ok (.iload_n 0, 1) := by decide +kernel
theorem dX12_length_1 : decode cX12_length 1 = .ok (.bipush 8, 2) := by decide +kernel
theorem dX12_length_3 : decode cX12_length 3 = .ok (.idiv, 1) := by decide +kernel
theorem dX12_length_4 : decode cX12_length 4 = .ok (.istore_n 1, 1) := by decide +kernel
theorem dX12_length_5 : decode cX12_length 5 = .ok (.iload_n 0, 1) := by decide +kernel
theorem dX12_length_6 : decode cX12_length 6 = .ok (.bipush 8, 2) := by decide +kernel
theorem dX12_length_8 : decode cX12_length 8 = .ok (.irem, 1) := by decide +kernel
theorem dX12_length_9 : decode cX12_length 9 = .ok (.istore_n 2, 1) := by decide +kernel
theorem dX12_length_10 : decode cX12_length 10 = .ok (.iload_n 1, 1) := by decide +kernel
theorem dX12_length_11 : decode cX12_length 11 = .ok (.iconst 4, 1) := by decide +kernel
theorem dX12_length_12 : decode cX12_length 12 = .ok (.if_icmp .ge 7, 3) := by decide +kernel
theorem dX12_length_15 : decode cX12_length 15 = .ok (.iconst 1, 1) := by decide +kernel
theorem dX12_length_16 : decode cX12_length 16 = .ok (.goto 24, 3) := by decide +kernel
theorem dX12_length_19 : decode cX12_length 19 = .ok (.iload_n 1, 1) := by decide +kernel
theorem dX12_length_20 : decode cX12_length 20 = .ok (.bipush 25, 2) := by decide +kernel
theorem dX12_length_22 : decode cX12_length 22 = .ok (.if_icmp .gt 13, 3) := by decide +kernel
theorem dX12_length_25 : decode cX12_length 25 = .ok (.iload_n 2, 1) := by decide +kernel
theorem dX12_length_26 : decode cX12_length 26 = .ok (.iconst 3, 1) := by decide +kernel
theorem dX12_length_27 : decode cX12_length 27 = .ok (.if_icmp .lt 8, 3) := by decide +kernel
theorem dX12_length_30 : decode cX12_length 30 = .ok (.iload_n 2, 1) := by decide +kernel
theorem dX12_length_31 : decode cX12_length 31 = .ok (.iconst 4, 1) := by decide +kernel
theorem dX12_length_32 : decode cX12_length 32 = .ok (.if_icmp .le 7, 3) := by decide +kernel
theorem dX12_length_35 : decode cX12_length 35 = .ok (.iconst 2, 1) := by decide +kernel
theorem dX12_length_36 : decode cX12_length 36 = .ok (.goto 4, 3) := by decide +kernel
theorem dX12_length_39 : decode cX12_length 39 = .ok (.iconst 3, 1) := by decide +kernel
theorem dX12_length_40 : decode cX12_length 40 = .ok (.ireturn, 1) := by decide +kernel
theorem dX12_is_0 : decode cX12_is 0 = .ok (.aload_n 0, 1) := by decide +kernel
theorem dX12_is_1 : decode cX12_is 1 = .ok (.getfield 9, 3) := by decide +kernel
theorem dX12_is_4 : decode cX12_is 4 = .ok (.iconst 3, 1) := by decide +kernel
theorem dX12_is_5 : decode cX12_is 5 = .ok (.iaload, 1) := by decide +kernel
theorem dX12_is_6 : decode cX12_is 6 = .ok (.iload_n 1, 1) := by decide +kernel
theorem dX12_is_7 : decode cX12_is 7 = .ok (.iand, 1) := by decide +kernel
theorem dX12_is_8 : decode cX12_is 8 = .ok (.ifCond .eq 7, 3) := by decide +kernel
theorem dX12_is_11 : decode cX12_is 11 = .ok (.iconst 1, 1) := by decide +kernel
theorem dX12_is_12 : decode cX12_is 12 = .ok (.goto 4, 3) := by decide +kernel
theorem dX12_is_15 : decode cX12_is 15 = .ok (.iconst 0, 1) := by decide +kernel
theorem dX12_is_16 : decode cX12_is 16 = .ok (.ireturn, 1) := by decide +kernel
theorem dX12_add_0 : decode cX12_add 0 = .ok (.aload_n 0, 1) := by decide +kernel
theorem dX12_add_1 : decode cX12_add 1 = .ok (.getfield 9, 3) := by decide +kernel
theorem dX12_add_4 : decode cX12_add 4 = .ok (.iconst 0, 1) := by decide +kernel
theorem dX12_add_5 : decode cX12_add 5 = .ok (.iaload, 1) := by decide +kernel
theorem dX12_add_6 : decode cX12_add 6 = .ok (.istore_n 3, 1) := by decide +kernel
theorem dX12_add_7 : decode cX12_add 7 = .ok (.iload_n 3, 1) := by decide +kernel
theorem dX12_add_8 : decode cX12_add 8 = .ok (.iload_n 1, 1) := by decide +kernel
theorem dX12_add_9 : decode cX12_add 9 = .ok (.iadd, 1) := by decide +kernel
theorem dX12_add_10 : decode cX12_add 10 = .ok (.iload_n 2, 1) := by decide +kernel
theorem dX12_add_11 : decode cX12_add 11 = .ok (.iadd, 1) := by decide +kernel
theorem dX12_add_12 : decode cX12_add 12 = .ok (.istore 4, 2) := by decide +kernel
theorem dX12_add_14 : decode cX12_add 14 = .ok (.aload_n 0, 1) := by decide +kernel
theorem dX12_add_15 : decode cX12_add 15 = .ok (.iconst 1, 1) := by decide +kernel
theorem dX12_add_16 : decode cX12_add 16 = .ok (.iload 4, 2) := by decide +kernel
theorem dX12_add_18 : decode cX12_add 18 = .ok (.sipush 255, 3) := by decide +kernel
theorem dX12_add_21 : decode cX12_add 21 = .ok (.if_icmp .le 7, 3) := by decide +kernel
theorem dX12_add_24 : decode cX12_add 24 = .ok (.iconst 1, 1) := by decide +kernel
theorem dX12_add_25 : decode cX12_add 25 = .ok (.goto 4, 3) := by decide +kernel
theorem dX12_add_28 : decode cX12_add 28 = .ok (.iconst 0, 1) := by decide +kernel
theorem dX12_add_29 : decode cX12_add 29 = .ok (.invokevirtual 188, 3) := by decide +kernel
theorem dX12_add_32 : decode cX12_add 32 = .ok (.aload_n 0, 1) := by decide +kernel
theorem dX12_add_33 : decode cX12_add 33 = .ok (.bipush 8, 2) := by decide +kernel
theorem dX12_add_35 : decode cX12_add 35 = .ok (.iload_n 3, 1) := by decide +kernel
theorem dX12_add_36 : decode cX12_add 36 = .ok (.sipush 128, 3) := by decide +kernel
theorem dX12_add_39 : decode cX12_add 39 = .ok (.if_icmp .ge 7, 3) := by decide +kernel
theorem dX12_add_42 : decode cX12_add 42 = .ok (.iconst 1, 1) := by decide +kernel
theorem dX12_add_43 : decode cX12_add 43 = .ok (.goto 4, 3) := by decide +kernel
theorem dX12_add_46 : decode cX12_add 46 = .ok (.iconst 0, 1) := by decide +kernel
theorem dX12_add_47 : decode cX12_add 47 = .ok (.iload_n 1, 1) := by decide +kernel
theorem dX12_add_48 : decode cX12_add 48 = .ok (.sipush 128, 3) := by decide +kernel
theorem dX12_add_51 : decode cX12_add 51 = .ok (.if_icmp .ge 7, 3) := by decide +kernel
theorem dX12_add_54 : decode cX12_add 54 = .ok (.iconst 1, 1) := by decide +kernel
theorem dX12_add_55 : decode cX12_add 55 = .ok (.goto 4, 3) := by decide +kernel
theorem dX12_add_58 : decode cX12_add 58 = .ok (.iconst 0, 1) := by decide +kernel
theorem dX12_add_59 : decode cX12_add 59 = .ok (.if_icmp .ne 39, 3) := by decide +kernel
theorem dX12_add_62 : decode cX12_add 62 = .ok (.iload_n 3, 1) := by decide +kernel
theorem dX12_add_63 : decode cX12_add 63 = .ok (.sipush 128, 3) := by decide +kernel
theorem dX12_add_66 : decode cX12_add 66 = .ok (.if_icmp .ge 7, 3) := by decide +kernel
theorem dX12_add_69 : decode cX12_add 69 = .ok (.iconst 1, 1) := by decide +kernel
theorem dX12_add_70 : decode cX12_add 70 = .ok (.goto 4, 3) := by decide +kernel
theorem dX12_add_73 : decode cX12_add 73 = .ok (.iconst 0, 1) := by decide +kernel
theorem dX12_add_74 : decode cX12_add 74 = .ok (.iload 4, 2) := by decide +kernel
theorem dX12_add_76 : decode cX12_add 76 = .ok (.sipush 256, 3) := by decide +kernel
theorem dX12_add_79 : decode cX12_add 79 = .ok (.irem, 1) := by decide +kernel
theorem dX12_add_80 : decode cX12_add 80 = .ok (.sipush 128, 3) := by decide +kernel
theorem dX12_add_83 : decode cX12_add 83 = .ok (.if_icmp .ge 7, 3) := by decide +kernel
theorem dX12_add_86 : decode cX12_add 86 = .ok (.iconst 1, 1) := by decide +kernel
theorem dX12_add_87 : decode cX12_add 87 = .ok (.goto 4, 3) := by decide +kernel
theorem dX12_add_90 : decode cX12_add 90 = .ok (.iconst 0, 1) := by decide +kernel
theorem dX12_add_91 : decode cX12_add 91 = .ok (.if_icmp .eq 7, 3) := by decide +kernel
theorem dX12_add_94 : decode cX12_add 94 = .ok (.iconst 1, 1) := by decide +kernel
theorem dX12_add_95 : decode cX12_add 95 = .ok (.goto 4, 3) := by decide +kernel
theorem dX12_add_98 : decode cX12_add 98 = .ok (.iconst 0, 1) := by decide +kernel
theorem dX12_add_99 : decode cX12_add 99 = .ok (.invokevirtual 188, 3) := by decide +kernel
theorem dX12_add_102 : decode cX12_add 102 = .ok (.aload_n 0, 1) := by decide +kernel
theorem dX12_add_103 : decode cX12_add 103 = .ok (.iconst 0, 1) := by decide +kernel
theorem dX12_add_104 : decode cX12_add 104 = .ok (.iload 4, 2) := by decide +kernel
theorem dX12_add_106 : decode cX12_add 106 = .ok (.sipush 256, 3) := by decide +kernel
theorem dX12_add_109 : decode cX12_add 109 = .ok (.irem, 1) := by decide +kernel
theorem dX12_add_110 : decode cX12_add 110 = .ok (.invokevirtual 195, 3) := by decide +kernel
theorem dX12_add_113 : decode cX12_add 113 = .ok (.return_, 1) := by decide +kernel
theorem dX12_plain_0 : decode cX12_plain 0 = .ok (.iload_n 1, 1) := by decide +kernel
theorem dX12_plain_1 : decode cX12_plain 1 = .ok (.tableswitch 608 0 30 #[139, 142, 151, 160, 167, 186, 200, 200, 219, 219, 238, 252, 266, 280, 294, 331, 396, 409, 421, 434, 446, 459, 474, 494, 516, 516, 516, 516, 538, 568, 590], 139) := by decide +kernel
theorem dX12_plain_140 : decode cX12_plain 140 = .ok (.goto 473, 3) := by decide +kernel
theorem dX12_plain_143 : decode cX12_plain 143 = .ok (.aload_n 0, 1) := by decide +kernel
theorem dX12_plain_144 : decode cX12_plain 144 = .ok (.iconst 5, 1) := by decide +kernel
theorem dX12_plain_145 : decode cX12_plain 145 = .ok (.iconst 2, 1) := by decide +kernel
theorem dX12_plain_146 : decode cX12_plain 146 = .ok (.invokevirtual 154, 3) := by decide +kernel
theorem dX12_plain_149 : decode cX12_plain 149 = .ok (.goto 464, 3) := by decide +kernel
theorem dX12_plain_152 : decode cX12_plain 152 = .ok (.aload_n 0, 1) := by decide +kernel
theorem dX12_plain_153 : decode cX12_plain 153 = .ok (.iconst 5, 1) := by decide +kernel
theorem dX12_plain_154 : decode cX12_plain 154 = .ok (.iconst 1, 1) := by decide +kernel
theorem dX12_plain_155 : decode cX12_plain 155 = .ok (.invokevirtual 154, 3) := by decide +kernel
theorem dX12_plain_158 : decode cX12_plain 158 = .ok (.goto 455, 3) := by decide +kernel
theorem dX12_plain_161 : decode cX12_plain 161 = .ok (.aload_n 0, 1) := by decide +kernel
theorem dX12_plain_162 : decode cX12_plain 162 = .ok (.invokevirtual 206, 3) := by decide +kernel
theorem dX12_plain_165 : decode cX12_plain 165 = .ok (.goto 448, 3) := by decide +kernel
theorem dX12_plain_168 : decode cX12_plain 168 = .ok (.aload_n 0, 1) := by decide +kernel
theorem dX12_plain_169 : decode cX12_plain 169 = .ok (.iconst 3, 1) := by decide +kernel
theorem dX12_plain_170 : decode cX12_plain 170 = .ok (.aload_n 0, 1) := by decide +kernel
theorem dX12_plain_171 : decode cX12_plain 171 = .ok (.invokevirtual 167, 3) := by decide +kernel
theorem dX12_plain_174 : decode cX12_plain 174 = .ok (.bipush 31, 2) := by decide +kernel
theorem dX12_plain_176 : decode cX12_plain 176 = .ok (.iand, 1) := by decide +kernel
theorem dX12_plain_177 : decode cX12_plain 177 = .ok (.invokevirtual 154, 3) := by decide +kernel
theorem dX12_plain_180 : decode cX12_plain 180 = .ok (.aload_n 0, 1) := by decide +kernel
theorem dX12_plain_181 : decode cX12_plain 181 = .ok (.invokevirtual 206, 3) := by decide +kernel
theorem dX12_plain_184 : decode cX12_plain 184 = .ok (.goto 429, 3) := by decide +kernel
theorem dX12_plain_187 : decode cX12_plain 187 = .ok (.aload_n 0, 1) := by decide +kernel
theorem dX12_plain_188 : decode cX12_plain 188 = .ok (.iload_n 2, 1) := by decide +kernel
theorem dX12_plain_189 : decode cX12_plain 189 = .ok (.invokevirtual 209, 3) := by decide +kernel
theorem dX12_plain_192 : decode cX12_plain 192 = .ok (.aload_n 0, 1) := by decide +kernel
theorem dX12_plain_193 : decode cX12_plain 193 = .ok (.bipush 6, 2) := by decide +kernel
theorem dX12_plain_195 : decode cX12_plain 195 = .ok (.invokevirtual 212, 3) := by decide +kernel
theorem dX12_plain_198 : decode cX12_plain 198 = .ok (.goto 415, 3) := by decide +kernel
theorem dX12_plain_201 : decode cX12_plain 201 = .ok (.aload_n 0, 1) := by decide +kernel
theorem dX12_plain_202 : decode cX12_plain 202 = .ok (.iconst 1, 1) := by decide +kernel
theorem dX12_plain_203 : decode cX12_plain 203 = .ok (.iload_n 1, 1) := by decide +kernel
theorem dX12_plain_204 : decode cX12_plain 204 = .ok (.bipush 7, 2) := by decide +kernel
theorem dX12_plain_206 : decode cX12_plain 206 = .ok (.if_icmp .ne 7, 3) := by decide +kernel
theorem dX12_plain_209 : decode cX12_plain 209 = .ok (.iconst 1, 1) := by decide +kernel
theorem dX12_plain_210 : decode cX12_plain 210 = .ok (.goto 4, 3) := by decide +kernel
theorem dX12_plain_213 : decode cX12_plain 213 = .ok (.iconst 0, 1) := by decide +kernel
theorem dX12_plain_214 : decode cX12_plain 214 = .ok (.invokevirtual 188, 3) := by decide +kernel
theorem dX12_plain_217 : decode cX12_plain 217 = .ok (.goto 396, 3) := by decide +kernel
theorem dX12_plain_220 : decode cX12_plain 220 = .ok (.aload_n 0, 1) := by decide +kernel
theorem dX12_plain_221 : decode cX12_plain 221 = .ok (.iconst 4, 1) := by decide +kernel
theorem dX12_plain_222 : decode cX12_plain 222 = .ok (.iload_n 1, 1) := by decide +kernel
theorem dX12_plain_223 : decode cX12_plain 223 = .ok (.bipush 9, 2) := by decide +kernel
theorem dX12_plain_225 : decode cX12_plain 225 = .ok (.if_icmp .ne 7, 3) := by decide +kernel
theorem dX12_plain_228 : decode cX12_plain 228 = .ok (.iconst 1, 1) := by decide +kernel
theorem dX12_plain_229 : decode cX12_plain 229 = .ok (.goto 4, 3) := by decide +kernel
theorem dX12_plain_232 : decode cX12_plain 232 = .ok (.iconst 0, 1) := by decide +kernel
theorem dX12_plain_233 : decode cX12_plain 233 = .ok (.invokevirtual 188, 3) := by decide +kernel
theorem dX12_plain_236 : decode cX12_plain 236 = .ok (.goto 377, 3) := by decide +kernel
theorem dX12_plain_239 : decode cX12_plain 239 = .ok (.aload_n 0, 1) := by decide +kernel
theorem dX12_plain_240 : decode cX12_plain 240 = .ok (.iconst 1, 1) := by decide +kernel
theorem dX12_plain_241 : decode cX12_plain 241 = .ok (.aload_n 0, 1) := by decide +kernel
theorem dX12_plain_242 : decode cX12_plain 242 = .ok (.getfield 9, 3) := by decide +kernel
theorem dX12_plain_245 : decode cX12_plain 245 = .ok (.iconst 0, 1) := by decide +kernel
theorem dX12_plain_246 : decode cX12_plain 246 = .ok (.iaload, 1) := by decide +kernel
theorem dX12_plain_247 : decode cX12_plain 247 = .ok (.invokevirtual 195, 3) := by decide +kernel
theorem dX12_plain_250 : decode cX12_plain 250 = .ok (.goto 363, 3) := by decide +kernel
theorem dX12_plain_253 : decode cX12_plain 253 = .ok (.aload_n 0, 1) := by decide +kernel
theorem dX12_plain_254 : decode cX12_plain 254 = .ok (.iconst 0, 1) := by decide +kernel
theorem dX12_plain_255 : decode cX12_plain 255 = .ok (.aload_n 0, 1) := by decide +kernel
theorem dX12_plain_256 : decode cX12_plain 256 = .ok (.getfield 9, 3) := by decide +kernel
theorem dX12_plain_259 : decode cX12_plain 259 = .ok (.iconst 1, 1) := by decide +kernel
theorem dX12_plain_260 : decode cX12_plain 260 = .ok (.iaload, 1) := by decide +kernel
theorem dX12_plain_261 : decode cX12_plain 261 = .ok (.invokevirtual 195, 3) := by decide +kernel
theorem dX12_plain_264 : decode cX12_plain 264 = .ok (.goto 349, 3) := by decide +kernel
theorem dX12_plain_267 : decode cX12_plain 267 = .ok (.aload_n 0, 1) := by decide +kernel
theorem dX12_plain_268 : decode cX12_plain 268 = .ok (.iconst 1, 1) := by decide +kernel
theorem dX12_plain_269 : decode cX12_plain 269 = .ok (.aload_n 0, 1) := by decide +kernel
theorem dX12_plain_270 : decode cX12_plain 270 = .ok (.getfield 9, 3) := by decide +kernel
theorem dX12_plain_273 : decode cX12_plain 273 = .ok (.iconst 2, 1) := by decide +kernel
theorem dX12_plain_274 : decode cX12_plain 274 = .ok (.iaload, 1) := by decide +kernel
theorem dX12_plain_275 : decode cX12_plain 275 = .ok (.invokevirtual 195, 3) := by decide +kernel
theorem dX12_plain_278 : decode cX12_plain 278 = .ok (.goto 335, 3) := by decide +kernel
theorem dX12_plain_281 : decode cX12_plain 281 = .ok (.aload_n 0, 1) := by decide +kernel
theorem dX12_plain_282 : decode cX12_plain 282 = .ok (.iconst 2, 1) := by decide +kernel
theorem dX12_plain_283 : decode cX12_plain 283 = .ok (.aload_n 0, 1) := by decide +kernel
theorem dX12_plain_284 : decode cX12_plain 284 = .ok (.getfield 9, 3) := by decide +kernel
theorem dX12_plain_287 : decode cX12_plain 287 = .ok (.iconst 1, 1) := by decide +kernel
theorem dX12_plain_288 : decode cX12_plain 288 = .ok (.iaload, 1) := by decide +kernel
theorem dX12_plain_289 : decode cX12_plain 289 = .ok (.invokevirtual 154, 3) := by decide +kernel
theorem dX12_plain_292 : decode cX12_plain 292 = .ok (.goto 321, 3) := by decide +kernel
theorem dX12_plain_295 : decode cX12_plain 295 = .ok (.aload_n 0, 1) := by decide +kernel
theorem dX12_plain_296 : decode cX12_plain 296 = .ok (.getfield 9, 3) := by decide +kernel
theorem dX12_plain_299 : decode cX12_plain 299 = .ok (.iconst 0, 1) := by decide +kernel
theorem dX12_plain_300 : decode cX12_plain 300 = .ok (.iaload, 1) := by decide +kernel
theorem dX12_plain_301 : decode cX12_plain 301 = .ok (.istore_n 3, 1) := by decide +kernel
theorem dX12_plain_302 : decode cX12_plain 302 = .ok (.aload_n 0, 1) := by decide +kernel
theorem dX12_plain_303 : decode cX12_plain 303 = .ok (.iconst 0, 1) := by decide +kernel
theorem dX12_plain_304 : decode cX12_plain 304 = .ok (.aload_n 0, 1) := by decide +kernel
theorem dX12_plain_305 : decode cX12_plain 305 = .ok (.getfield 9, 3) := by decide +kernel
theorem dX12_plain_308 : decode cX12_plain 308 = .ok (.iconst 1, 1) := by decide +kernel
theorem dX12_plain_309 : decode cX12_plain 309 = .ok (.iaload, 1) := by decide +kernel
theorem dX12_plain_310 : decode cX12_plain 310 = .ok (.invokevirtual 154, 3) := by decide +kernel
theorem dX12_plain_313 : decode cX12_plain 313 = .ok (.aload_n 0, 1) := by decide +kernel
theorem dX12_plain_314 : decode cX12_plain 314 = .ok (.iconst 1, 1) := by decide +kernel
theorem dX12_plain_315 : decode cX12_plain 315 = .ok (.iload_n 3, 1) := by decide +kernel
theorem dX12_plain_316 : decode cX12_plain 316 = .ok (.invokevirtual 154, 3) := by decide +kernel
theorem dX12_plain_319 : decode cX12_plain 319 = .ok (.aload_n 0, 1) := by decide +kernel
theorem dX12_plain_320 : decode cX12_plain 320 = .ok (.aload_n 0, 1) := by decide +kernel
theorem dX12_plain_321 : decode cX12_plain 321 = .ok (.getfield 9, 3) := by decide +kernel
theorem dX12_plain_324 : decode cX12_plain 324 = .ok (.iconst 0, 1) := by decide +kernel
theorem dX12_plain_325 : decode cX12_plain 325 = .ok (.iaload, 1) := by decide +kernel
theorem dX12_plain_326 : decode cX12_plain 326 = .ok (.invokevirtual 192, 3) := by decide +kernel
theorem dX12_plain_329 : decode cX12_plain 329 = .ok (.goto 284, 3) := by decide +kernel
theorem dX12_plain_332 : decode cX12_plain 332 = .ok (.aload_n 0, 1) := by decide +kernel
theorem dX12_plain_333 : decode cX12_plain 333 = .ok (.getfield 9, 3) := by decide +kernel
theorem dX12_plain_336 : decode cX12_plain 336 = .ok (.iconst 0, 1) := by decide +kernel
theorem dX12_plain_337 : decode cX12_plain 337 = .ok (.iaload, 1) := by decide +kernel
theorem dX12_plain_338 : decode cX12_plain 338 = .ok (.aload_n 0, 1) := by decide +kernel
theorem dX12_plain_339 : decode cX12_plain 339 = .ok (.getfield 9, 3) := by decide +kernel
theorem dX12_plain_342 : decode cX12_plain 342 = .ok (.iconst 1, 1) := by decide +kernel
theorem dX12_plain_343 : decode cX12_plain 343 = .ok (.iaload, 1) := by decide +kernel
theorem dX12_plain_344 : decode cX12_plain 344 = .ok (.imul, 1) := by decide +kernel
theorem dX12_plain_345 : decode cX12_plain 345 = .ok (.istore_n 3, 1) := by decide +kernel
theorem dX12_plain_346 : decode cX12_plain 346 = .ok (.aload_n 0, 1) := by decide +kernel
theorem dX12_plain_347 : decode cX12_plain 347 = .ok (.iconst 1, 1) := by decide +kernel
theorem dX12_plain_348 : decode cX12_plain 348 = .ok (.iload_n 3, 1) := by decide +kernel
theorem dX12_plain_349 : decode cX12_plain 349 = .ok (.sipush 256, 3) := by decide +kernel
theorem dX12_plain_352 : decode cX12_plain 352 = .ok (.idiv, 1) := by decide +kernel
theorem dX12_plain_353 : decode cX12_plain 353 = .ok (.invokevirtual 154, 3) := by decide +kernel
theorem dX12_plain_356 : decode cX12_plain 356 = .ok (.aload_n 0, 1) := by decide +kernel
theorem dX12_plain_357 : decode cX12_plain 357 = .ok (.iconst 1, 1) := by decide +kernel
theorem dX12_plain_358 : decode cX12_plain 358 = .ok (.iload_n 3, 1) := by decide +kernel
theorem dX12_plain_359 : decode cX12_plain 359 = .ok (.sipush 255, 3) := by decide +kernel
theorem dX12_plain_362 : decode cX12_plain 362 = .ok (.if_icmp .le 7, 3) := by decide +kernel
theorem dX12_plain_365 : decode cX12_plain 365 = .ok (.iconst 1, 1) := by decide +kernel
theorem dX12_plain_366 : decode cX12_plain 366 = .ok (.goto 4, 3) := by decide +kernel
theorem dX12_plain_369 : decode cX12_plain 369 = .ok (.iconst 0, 1) := by decide +kernel
theorem dX12_plain_370 : decode cX12_plain 370 = .ok (.invokevirtual 188, 3) := by decide +kernel
theorem dX12_plain_373 : decode cX12_plain 373 = .ok (.aload_n 0, 1) := by decide +kernel
theorem dX12_plain_374 : decode cX12_plain 374 = .ok (.iconst 0, 1) := by decide +kernel
theorem dX12_plain_375 : decode cX12_plain 375 = .ok (.iload_n 3, 1) := by decide +kernel
theorem dX12_plain_376 : decode cX12_plain 376 = .ok (.sipush 256, 3) := by decide +kernel
theorem dX12_plain_379 : decode cX12_plain 379 = .ok (.irem, 1) := by decide +kernel
theorem dX12_plain_380 : decode cX12_plain 380 = .ok (.invokevirtual 195, 3) := by decide +kernel
theorem dX12_plain_383 : decode cX12_plain 383 = .ok (.aload_n 0, 1) := by decide +kernel
theorem dX12_plain_384 : decode cX12_plain 384 = .ok (.dup, 1) := by decide +kernel
theorem dX12_plain_385 : decode cX12_plain 385 = .ok (.getfield 131, 3) := by decide +kernel
theorem dX12_plain_388 : decode cX12_plain 388 = .ok (.bipush 8, 2) := by decide +kernel
theorem dX12_plain_390 : decode cX12_plain 390 = .ok (.iadd, 1) := by decide +kernel
theorem dX12_plain_391 : decode cX12_plain 391 = .ok (.putfield 131, 3) := by decide +kernel
theorem dX12_plain_394 : decode cX12_plain 394 = .ok (.goto 219, 3) := by decide +kernel
theorem dX12_plain_397 : decode cX12_plain 397 = .ok (.aload_n 0, 1) := by decide +kernel
theorem dX12_plain_398 : decode cX12_plain 398 = .ok (.aload_n 0, 1) := by decide +kernel
theorem dX12_plain_399 : decode cX12_plain 399 = .ok (.getfield 9, 3) := by decide +kernel
theorem dX12_plain_402 : decode cX12_plain 402 = .ok (.iconst 0, 1) := by decide +kernel
theorem dX12_plain_403 : decode cX12_plain 403 = .ok (.iaload, 1) := by decide +kernel
theorem dX12_plain_404 : decode cX12_plain 404 = .ok (.invokevirtual 163, 3) := by decide +kernel
theorem dX12_plain_407 : decode cX12_plain 407 = .ok (.goto 206, 3) := by decide +kernel
theorem dX12_plain_410 : decode cX12_plain 410 = .ok (.aload_n 0, 1) := by decide +kernel
theorem dX12_plain_411 : decode cX12_plain 411 = .ok (.iconst 0, 1) := by decide +kernel
theorem dX12_plain_412 : decode cX12_plain 412 = .ok (.aload_n 0, 1) := by decide +kernel
theorem dX12_plain_413 : decode cX12_plain 413 = .ok (.invokevirtual 167, 3) := by decide +kernel
theorem dX12_plain_416 : decode cX12_plain 416 = .ok (.invokevirtual 195, 3) := by decide +kernel
theorem dX12_plain_419 : decode cX12_plain 419 = .ok (.goto 194, 3) := by decide +kernel
theorem dX12_plain_422 : decode cX12_plain 422 = .ok (.aload_n 0, 1) := by decide +kernel
theorem dX12_plain_423 : decode cX12_plain 423 = .ok (.aload_n 0, 1) := by decide +kernel
theorem dX12_plain_424 : decode cX12_plain 424 = .ok (.getfield 9, 3) := by decide +kernel
theorem dX12_plain_427 : decode cX12_plain 427 = .ok (.iconst 1, 1) := by decide +kernel
theorem dX12_plain_428 : decode cX12_plain 428 = .ok (.iaload, 1) := by decide +kernel
theorem dX12_plain_429 : decode cX12_plain 429 = .ok (.invokevirtual 163, 3) := by decide +kernel
theorem dX12_plain_432 : decode cX12_plain 432 = .ok (.goto 181, 3) := by decide +kernel
theorem dX12_plain_435 : decode cX12_plain 435 = .ok (.aload_n 0, 1) := by decide +kernel
theorem dX12_plain_436 : decode cX12_plain 436 = .ok (.iconst 1, 1) := by decide +kernel
theorem dX12_plain_437 : decode cX12_plain 437 = .ok (.aload_n 0, 1) := by decide +kernel
theorem dX12_plain_438 : decode cX12_plain 438 = .ok (.invokevirtual 167, 3) := by decide +kernel
theorem dX12_plain_441 : decode cX12_plain 441 = .ok (.invokevirtual 195, 3) := by decide +kernel
theorem dX12_plain_444 : decode cX12_plain 444 = .ok (.goto 169, 3) := by decide +kernel
theorem dX12_plain_447 : decode cX12_plain 447 = .ok (.aload_n 0, 1) := by decide +kernel
theorem dX12_plain_448 : decode cX12_plain 448 = .ok (.aload_n 0, 1) := by decide +kernel
theorem dX12_plain_449 : decode cX12_plain 449 = .ok (.getfield 9, 3) := by decide +kernel
theorem dX12_plain_452 : decode cX12_plain 452 = .ok (.iconst 3, 1) := by decide +kernel
theorem dX12_plain_453 : decode cX12_plain 453 = .ok (.iaload, 1) := by decide +kernel
theorem dX12_plain_454 : decode cX12_plain 454 = .ok (.invokevirtual 163, 3) := by decide +kernel
theorem dX12_plain_457 : decode cX12_plain 457 = .ok (.goto 156, 3) := by decide +kernel
theorem dX12_plain_460 : decode cX12_plain 460 = .ok (.aload_n 0, 1) := by decide +kernel
theorem dX12_plain_461 : decode cX12_plain 461 = .ok (.iconst 3, 1) := by decide +kernel
theorem dX12_plain_462 : decode cX12_plain 462 = .ok (.aload_n 0, 1) := by decide +kernel
theorem dX12_plain_463 : decode cX12_plain 463 = .ok (.invokevirtual 167, 3) := by decide +kernel
theorem dX12_plain_466 : decode cX12_plain 466 = .ok (.bipush 31, 2) := by decide +kernel
theorem dX12_plain_468 : decode cX12_plain 468 = .ok (.iand, 1) := by decide +kernel
theorem dX12_plain_469 : decode cX12_plain 469 = .ok (.invokevirtual 154, 3) := by decide +kernel
theorem dX12_plain_472 : decode cX12_plain 472 = .ok (.goto 141, 3) := by decide +kernel
theorem dX12_plain_475 : decode cX12_plain 475 = .ok (.aload_n 0, 1) := by decide +kernel
theorem dX12_plain_476 : decode cX12_plain 476 = .ok (.iconst 1, 1) := by decide +kernel
theorem dX12_plain_477 : decode cX12_plain 477 = .ok (.aload_n 0, 1) := by decide +kernel
theorem dX12_plain_478 : decode cX12_plain 478 = .ok (.getfield 9, 3) := by decide +kernel
theorem dX12_plain_481 : decode cX12_plain 481 = .ok (.iconst 1, 1) := by decide +kernel
theorem dX12_plain_482 : decode cX12_plain 482 = .ok (.iaload, 1) := by decide +kernel
theorem dX12_plain_483 : decode cX12_plain 483 = .ok (.iconst 1, 1) := by decide +kernel
theorem dX12_plain_484 : decode cX12_plain 484 = .ok (.iadd, 1) := by decide +kernel
theorem dX12_plain_485 : decode cX12_plain 485 = .ok (.sipush 256, 3) := by decide +kernel
theorem dX12_plain_488 : decode cX12_plain 488 = .ok (.irem, 1) := by decide +kernel
theorem dX12_plain_489 : decode cX12_plain 489 = .ok (.invokevirtual 195, 3) := by decide +kernel
theorem dX12_plain_492 : decode cX12_plain 492 = .ok (.goto 121, 3) := by decide +kernel
theorem dX12_plain_495 : decode cX12_plain 495 = .ok (.aload_n 0, 1) := by decide +kernel
theorem dX12_plain_496 : decode cX12_plain 496 = .ok (.iconst 1, 1) := by decide +kernel
theorem dX12_plain_497 : decode cX12_plain 497 = .ok (.aload_n 0, 1) := by decide +kernel
theorem dX12_plain_498 : decode cX12_plain 498 = .ok (.getfield 9, 3) := by decide +kernel
theorem dX12_plain_501 : decode cX12_plain 501 = .ok (.iconst 1, 1) := by decide +kernel
theorem dX12_plain_502 : decode cX12_plain 502 = .ok (.iaload, 1) := by decide +kernel
theorem dX12_plain_503 : decode cX12_plain 503 = .ok (.sipush 255, 3) := by decide +kernel
theorem dX12_plain_506 : decode cX12_plain 506 = .ok (.iadd, 1) := by decide +kernel
theorem dX12_plain_507 : decode cX12_plain 507 = .ok (.sipush 256, 3) := by decide +kernel
theorem dX12_plain_510 : decode cX12_plain 510 = .ok (.irem, 1) := by decide +kernel
theorem dX12_plain_511 : decode cX12_plain 511 = .ok (.invokevirtual 195, 3) := by decide +kernel
theorem dX12_plain_514 : decode cX12_plain 514 = .ok (.goto 99, 3) := by decide +kernel
theorem dX12_plain_517 : decode cX12_plain 517 = .ok (.aload_n 0, 1) := by decide +kernel
theorem dX12_plain_518 : decode cX12_plain 518 = .ok (.iconst 0, 1) := by decide +kernel
theorem dX12_plain_519 : decode cX12_plain 519 = .ok (.aload_n 0, 1) := by decide +kernel
theorem dX12_plain_520 : decode cX12_plain 520 = .ok (.iload_n 1, 1) := by decide +kernel
theorem dX12_plain_521 : decode cX12_plain 521 = .ok (.bipush 24, 2) := by decide +kernel
theorem dX12_plain_523 : decode cX12_plain 523 = .ok (.isub, 1) := by decide +kernel
theorem dX12_plain_524 : decode cX12_plain 524 = .ok (.aload_n 0, 1) := by decide +kernel
theorem dX12_plain_525 : decode cX12_plain 525 = .ok (.getfield 9, 3) := by decide +kernel
theorem dX12_plain_528 : decode cX12_plain 528 = .ok (.iconst 0, 1) := by decide +kernel
theorem dX12_plain_529 : decode cX12_plain 529 = .ok (.iaload, 1) := by decide +kernel
theorem dX12_plain_530 : decode cX12_plain 530 = .ok (.invokevirtual 215, 3) := by decide +kernel
theorem dX12_plain_533 : decode cX12_plain 533 = .ok (.invokevirtual 154, 3) := by decide +kernel
theorem dX12_plain_536 : decode cX12_plain 536 = .ok (.goto 77, 3) := by decide +kernel
theorem dX12_plain_539 : decode cX12_plain 539 = .ok (.aload_n 0, 1) := by decide +kernel
theorem dX12_plain_540 : decode cX12_plain 540 = .ok (.iconst 0, 1) := by decide +kernel
theorem dX12_plain_541 : decode cX12_plain 541 = .ok (.aload_n 0, 1) := by decide +kernel
theorem dX12_plain_542 : decode cX12_plain 542 = .ok (.getfield 9, 3) := by decide +kernel
theorem dX12_plain_545 : decode cX12_plain 545 = .ok (.iconst 0, 1) := by decide +kernel
theorem dX12_plain_546 : decode cX12_plain 546 = .ok (.iaload, 1) := by decide +kernel
theorem dX12_plain_547 : decode cX12_plain 547 = .ok (.bipush 16, 2) := by decide +kernel
theorem dX12_plain_549 : decode cX12_plain 549 = .ok (.idiv, 1) := by decide +kernel
theorem dX12_plain_550 : decode cX12_plain 550 = .ok (.aload_n 0, 1) := by decide +kernel
theorem dX12_plain_551 : decode cX12_plain 551 = .ok (.getfield 9, 3) := by decide +kernel
theorem dX12_plain_554 : decode cX12_plain 554 = .ok (.iconst 0, 1) := by decide +kernel
theorem dX12_plain_555 : decode cX12_plain 555 = .ok (.iaload, 1) := by decide +kernel
theorem dX12_plain_556 : decode cX12_plain 556 = .ok (.bipush 16, 2) := by decide +kernel
theorem dX12_plain_558 : decode cX12_plain 558 = .ok (.irem, 1) := by decide +kernel
theorem dX12_plain_559 : decode cX12_plain 559 = .ok (.bipush 16, 2) := by decide +kernel
theorem dX12_plain_561 : decode cX12_plain 561 = .ok (.imul, 1) := by decide +kernel
theorem dX12_plain_562 : decode cX12_plain 562 = .ok (.iadd, 1) := by decide +kernel
theorem dX12_plain_563 : decode cX12_plain 563 = .ok (.invokevirtual 195, 3) := by decide +kernel
theorem dX12_plain_566 : decode cX12_plain 566 = .ok (.goto 47, 3) := by decide +kernel
theorem dX12_plain_569 : decode cX12_plain 569 = .ok (.aload_n 0, 1) := by decide +kernel
theorem dX12_plain_570 : decode cX12_plain 570 = .ok (.iconst 0, 1) := by decide +kernel
theorem dX12_plain_571 : decode cX12_plain 571 = .ok (.sipush 256, 3) := by decide +kernel
theorem dX12_plain_574 : decode cX12_plain 574 = .ok (.aload_n 0, 1) := by decide +kernel
theorem dX12_plain_575 : decode cX12_plain 575 = .ok (.getfield 9, 3) := by decide +kernel
theorem dX12_plain_578 : decode cX12_plain 578 = .ok (.iconst 0, 1) := by decide +kernel
theorem dX12_plain_579 : decode cX12_plain 579 = .ok (.iaload, 1) := by decide +kernel
theorem dX12_plain_580 : decode cX12_plain 580 = .ok (.isub, 1) := by decide +kernel
theorem dX12_plain_581 : decode cX12_plain 581 = .ok (.sipush 256, 3) := by decide +kernel
theorem dX12_plain_584 : decode cX12_plain 584 = .ok (.irem, 1) := by decide +kernel
theorem dX12_plain_585 : decode cX12_plain 585 = .ok (.invokevirtual 195, 3) := by decide +kernel
theorem dX12_plain_588 : decode cX12_plain 588 = .ok (.goto 25, 3) := by decide +kernel
theorem dX12_plain_591 : decode cX12_plain 591 = .ok (.aload_n 0, 1) := by decide +kernel
theorem dX12_plain_592 : decode cX12_plain 592 = .ok (.iconst 0, 1) := by decide +kernel
theorem dX12_plain_593 : decode cX12_plain 593 = .ok (.sipush 255, 3) := by decide +kernel
theorem dX12_plain_596 : decode cX12_plain 596 = .ok (.aload_n 0, 1) := by decide +kernel
theorem dX12_plain_597 : decode cX12_plain 597 = .ok (.getfield 9, 3) := by decide +kernel
theorem dX12_plain_600 : decode cX12_plain 600 = .ok (.iconst 0, 1) := by decide +kernel
theorem dX12_plain_601 : decode cX12_plain 601 = .ok (.iaload, 1) := by decide +kernel
theorem dX12_plain_602 : decode cX12_plain 602 = .ok (.isub, 1) := by decide +kernel
theorem dX12_plain_603 : decode cX12_plain 603 = .ok (.invokevirtual 195, 3) := by decide +kernel
theorem dX12_plain_606 : decode cX12_plain 606 = .ok (.goto 7, 3) := by decide +kernel
theorem dX12_plain_609 : decode cX12_plain 609 = .ok (.aload_n 0, 1) := by decide +kernel
theorem dX12_plain_610 : decode cX12_plain 610 = .ok (.invokevirtual 219, 3) := by decide +kernel
theorem dX12_plain_613 : decode cX12_plain 613 = .ok (.return_, 1) := by decide +kernel
theorem dX12_carryOut_0 : decode cX12_carryOut 0 = .ok (.aload_n 0, 1) := by decide +kernel
theorem dX12_carryOut_1 : decode cX12_carryOut 1 = .ok (.getfield 9, 3) := by decide +kernel
theorem dX12_carryOut_4 : decode cX12_carryOut 4 = .ok (.iconst 4, 1) := by decide +kernel
theorem dX12_carryOut_5 : decode cX12_carryOut 5 = .ok (.iaload, 1) := by decide +kernel
theorem dX12_carryOut_6 : decode cX12_carryOut 6 = .ok (.istore_n 2, 1) := by decide +kernel
theorem dX12_carryOut_7 : decode cX12_carryOut 7 = .ok (.iload_n 1, 1) := by decide +kernel
theorem dX12_carryOut_8 : decode cX12_carryOut 8 = .ok (.bipush 8, 2) := by decide +kernel
theorem dX12_carryOut_10 : decode cX12_carryOut 10 = .ok (.idiv, 1) := by decide +kernel
theorem dX12_carryOut_11 : decode cX12_carryOut 11 = .ok (.istore_n 3, 1) := by decide +kernel
theorem dX12_carryOut_12 : decode cX12_carryOut 12 = .ok (.aload_n 0, 1) := by decide +kernel
theorem dX12_carryOut_13 : decode cX12_carryOut 13 = .ok (.sipush 12109, 3) := by decide +kernel
theorem dX12_carryOut_16 : decode cX12_carryOut 16 = .ok (.iload_n 2, 1) := by decide +kernel
theorem dX12_carryOut_17 : decode cX12_carryOut 17 = .ok (.iadd, 1) := by decide +kernel
theorem dX12_carryOut_18 : decode cX12_carryOut 18 = .ok (.aload_n 0, 1) := by decide +kernel
theorem dX12_carryOut_19 : decode cX12_carryOut 19 = .ok (.getfield 9, 3) := by decide +kernel
theorem dX12_carryOut_22 : decode cX12_carryOut 22 = .ok (.sipush 12109, 3) := by decide +kernel
theorem dX12_carryOut_25 : decode cX12_carryOut 25 = .ok (.iload_n 2, 1) := by decide +kernel
theorem dX12_carryOut_26 : decode cX12_carryOut 26 = .ok (.iadd, 1) := by decide +kernel
theorem dX12_carryOut_27 : decode cX12_carryOut 27 = .ok (.iaload, 1) := by decide +kernel
theorem dX12_carryOut_28 : decode cX12_carryOut 28 = .ok (.iconst 1, 1) := by decide +kernel
theorem dX12_carryOut_29 : decode cX12_carryOut 29 = .ok (.iadd, 1) := by decide +kernel
theorem dX12_carryOut_30 : decode cX12_carryOut 30 = .ok (.invokevirtual 154, 3) := by decide +kernel
theorem dX12_carryOut_33 : decode cX12_carryOut 33 = .ok (.aload_n 0, 1) := by decide +kernel
theorem dX12_carryOut_34 : decode cX12_carryOut 34 = .ok (.bipush 8, 2) := by decide +kernel
theorem dX12_carryOut_36 : decode cX12_carryOut 36 = .ok (.aload_n 0, 1) := by decide +kernel
theorem dX12_carryOut_37 : decode cX12_carryOut 37 = .ok (.getfield 9, 3) := by decide +kernel
theorem dX12_carryOut_40 : decode cX12_carryOut 40 = .ok (.bipush 8, 2) := by decide +kernel
theorem dX12_carryOut_42 : decode cX12_carryOut 42 = .ok (.iaload, 1) := by decide +kernel
theorem dX12_carryOut_43 : decode cX12_carryOut 43 = .ok (.iconst 1, 1) := by decide +kernel
theorem dX12_carryOut_44 : decode cX12_carryOut 44 = .ok (.iadd, 1) := by decide +kernel
theorem dX12_carryOut_45 : decode cX12_carryOut 45 = .ok (.invokevirtual 154, 3) := by decide +kernel
theorem dX12_carryOut_48 : decode cX12_carryOut 48 = .ok (.aload_n 0, 1) := by decide +kernel
theorem dX12_carryOut_49 : decode cX12_carryOut 49 = .ok (.iconst 4, 1) := by decide +kernel
theorem dX12_carryOut_50 : decode cX12_carryOut 50 = .ok (.iload_n 2, 1) := by decide +kernel
theorem dX12_carryOut_51 : decode cX12_carryOut 51 = .ok (.iload_n 1, 1) := by decide +kernel
theorem dX12_carryOut_52 : decode cX12_carryOut 52 = .ok (.invokestatic 228, 3) := by decide +kernel
theorem dX12_carryOut_55 : decode cX12_carryOut 55 = .ok (.iadd, 1) := by decide +kernel
theorem dX12_carryOut_56 : decode cX12_carryOut 56 = .ok (.sipush 4095, 3) := by decide +kernel
theorem dX12_carryOut_59 : decode cX12_carryOut 59 = .ok (.iand, 1) := by decide +kernel
theorem dX12_carryOut_60 : decode cX12_carryOut 60 = .ok (.invokevirtual 154, 3) := by decide +kernel
theorem dX12_carryOut_63 : decode cX12_carryOut 63 = .ok (.aload_n 0, 1) := by decide +kernel
theorem dX12_carryOut_64 : decode cX12_carryOut 64 = .ok (.dup, 1) := by decide +kernel
theorem dX12_carryOut_65 : decode cX12_carryOut 65 = .ok (.getfield 131, 3) := by decide +kernel
theorem dX12_carryOut_68 : decode cX12_carryOut 68 = .ok (.iload_n 1, 1) := by decide +kernel
theorem dX12_carryOut_69 : decode cX12_carryOut 69 = .ok (.invokestatic 228, 3) := by decide +kernel
theorem dX12_carryOut_72 : decode cX12_carryOut 72 = .ok (.iadd, 1) := by decide +kernel
theorem dX12_carryOut_73 : decode cX12_carryOut 73 = .ok (.putfield 131, 3) := by decide +kernel
theorem dX12_carryOut_76 : decode cX12_carryOut 76 = .ok (.iload_n 3, 1) := by decide +kernel
theorem dX12_carryOut_77 : decode cX12_carryOut 77 = .ok (.iconst 4, 1) := by decide +kernel
theorem dX12_carryOut_78 : decode cX12_carryOut 78 = .ok (.if_icmp .ge 12, 3) := by decide +kernel
theorem dX12_carryOut_81 : decode cX12_carryOut 81 = .ok (.aload_n 0, 1) := by decide +kernel
theorem dX12_carryOut_82 : decode cX12_carryOut 82 = .ok (.iload_n 1, 1) := by decide +kernel
theorem dX12_carryOut_83 : decode cX12_carryOut 83 = .ok (.iload_n 2, 1) := by decide +kernel
theorem dX12_carryOut_84 : decode cX12_carryOut 84 = .ok (.invokevirtual 231, 3) := by decide +kernel
theorem dX12_carryOut_87 : decode cX12_carryOut 87 = .ok (.goto 78, 3) := by decide +kernel
theorem dX12_carryOut_90 : decode cX12_carryOut 90 = .ok (.iload_n 3, 1) := by decide +kernel
theorem dX12_carryOut_91 : decode cX12_carryOut 91 = .ok (.bipush 25, 2) := by decide +kernel
theorem dX12_carryOut_93 : decode cX12_carryOut 93 = .ok (.if_icmp .le 12, 3) := by decide +kernel
theorem dX12_carryOut_96 : decode cX12_carryOut 96 = .ok (.aload_n 0, 1) := by decide +kernel
theorem dX12_carryOut_97 : decode cX12_carryOut 97 = .ok (.iload_n 1, 1) := by decide +kernel
theorem dX12_carryOut_98 : decode cX12_carryOut 98 = .ok (.iload_n 2, 1) := by decide +kernel
theorem dX12_carryOut_99 : decode cX12_carryOut 99 = .ok (.invokevirtual 234, 3) := by decide +kernel
theorem dX12_carryOut_102 : decode cX12_carryOut 102 = .ok (.goto 63, 3) := by decide +kernel
theorem dX12_carryOut_105 : decode cX12_carryOut 105 = .ok (.iload_n 3, 1) := by decide +kernel
theorem dX12_carryOut_106 : decode cX12_carryOut 106 = .ok (.bipush 16, 2) := by decide +kernel
theorem dX12_carryOut_108 : decode cX12_carryOut 108 = .ok (.if_icmp .ge 42, 3) := by decide +kernel
theorem dX12_carryOut_111 : decode cX12_carryOut 111 = .ok (.aload_n 0, 1) := by decide +kernel
theorem dX12_carryOut_112 : decode cX12_carryOut 112 = .ok (.iload_n 3, 1) := by decide +kernel
theorem dX12_carryOut_113 : decode cX12_carryOut 113 = .ok (.iload_n 1, 1) := by decide +kernel
theorem dX12_carryOut_114 : decode cX12_carryOut 114 = .ok (.bipush 8, 2) := by decide +kernel
theorem dX12_carryOut_116 : decode cX12_carryOut 116 = .ok (.irem, 1) := by decide +kernel
theorem dX12_carryOut_117 : decode cX12_carryOut 117 = .ok (.iconst 1, 1) := by decide +kernel
theorem dX12_carryOut_118 : decode cX12_carryOut 118 = .ok (.if_icmp .ne 13, 3) := by decide +kernel
theorem dX12_carryOut_121 : decode cX12_carryOut 121 = .ok (.aload_n 0, 1) := by decide +kernel
theorem dX12_carryOut_122 : decode cX12_carryOut 122 = .ok (.iload_n 2, 1) := by decide +kernel
theorem dX12_carryOut_123 : decode cX12_carryOut 123 = .ok (.iconst 1, 1) := by decide +kernel
theorem dX12_carryOut_124 : decode cX12_carryOut 124 = .ok (.iadd, 1) := by decide +kernel
theorem dX12_carryOut_125 : decode cX12_carryOut 125 = .ok (.invokevirtual 125, 3) := by decide +kernel
theorem dX12_carryOut_128 : decode cX12_carryOut 128 = .ok (.goto 16, 3) := by decide +kernel
theorem dX12_carryOut_131 : decode cX12_carryOut 131 = .ok (.aload_n 0, 1) := by decide +kernel
theorem dX12_carryOut_132 : decode cX12_carryOut 132 = .ok (.aload_n 0, 1) := by decide +kernel
theorem dX12_carryOut_133 : decode cX12_carryOut 133 = .ok (.iload_n 1, 1) := by decide +kernel
theorem dX12_carryOut_134 : decode cX12_carryOut 134 = .ok (.bipush 8, 2) := by decide +kernel
theorem dX12_carryOut_136 : decode cX12_carryOut 136 = .ok (.irem, 1) := by decide +kernel
theorem dX12_carryOut_137 : decode cX12_carryOut 137 = .ok (.iload_n 2, 1) := by decide +kernel
theorem dX12_carryOut_138 : decode cX12_carryOut 138 = .ok (.invokevirtual 237, 3) := by decide +kernel
theorem dX12_carryOut_141 : decode cX12_carryOut 141 = .ok (.invokevirtual 160, 3) := by decide +kernel
theorem dX12_carryOut_144 : decode cX12_carryOut 144 = .ok (.invokevirtual 240, 3) := by decide +kernel
theorem dX12_carryOut_147 : decode cX12_carryOut 147 = .ok (.goto 18, 3) := by decide +kernel
theorem dX12_carryOut_150 : decode cX12_carryOut 150 = .ok (.aload_n 0, 1) := by decide +kernel
theorem dX12_carryOut_151 : decode cX12_carryOut 151 = .ok (.iload_n 3, 1) := by decide +kernel
theorem dX12_carryOut_152 : decode cX12_carryOut 152 = .ok (.aload_n 0, 1) := by decide +kernel
theorem dX12_carryOut_153 : decode cX12_carryOut 153 = .ok (.iload_n 1, 1) := by decide +kernel
theorem dX12_carryOut_154 : decode cX12_carryOut 154 = .ok (.bipush 8, 2) := by decide +kernel
theorem dX12_carryOut_156 : decode cX12_carryOut 156 = .ok (.irem, 1) := by decide +kernel
theorem dX12_carryOut_157 : decode cX12_carryOut 157 = .ok (.iload_n 2, 1) := by decide +kernel
theorem dX12_carryOut_158 : decode cX12_carryOut 158 = .ok (.invokevirtual 237, 3) := by decide +kernel
theorem dX12_carryOut_161 : decode cX12_carryOut 161 = .ok (.iload_n 2, 1) := by decide +kernel
theorem dX12_carryOut_162 : decode cX12_carryOut 162 = .ok (.invokevirtual 243, 3) := by decide +kernel
theorem dX12_carryOut_165 : decode cX12_carryOut 165 = .ok (.return_, 1) := by decide +kernel
theorem dX12_lines_0 : decode cX12_lines 0 = .ok (.aload_n 0, 1) := by decide +kernel
theorem dX12_lines_1 : decode cX12_lines 1 = .ok (.getfield 9, 3) := by decide +kernel
theorem dX12_lines_4 : decode cX12_lines 4 = .ok (.bipush 11, 2) := by decide +kernel
theorem dX12_lines_6 : decode cX12_lines 6 = .ok (.iaload, 1) := by decide +kernel
theorem dX12_lines_7 : decode cX12_lines 7 = .ok (.aload_n 0, 1) := by decide +kernel
theorem dX12_lines_8 : decode cX12_lines 8 = .ok (.getfield 9, 3) := by decide +kernel
theorem dX12_lines_11 : decode cX12_lines 11 = .ok (.bipush 10, 2) := by decide +kernel
theorem dX12_lines_13 : decode cX12_lines 13 = .ok (.iaload, 1) := by decide +kernel
theorem dX12_lines_14 : decode cX12_lines 14 = .ok (.iand, 1) := by decide +kernel
theorem dX12_lines_15 : decode cX12_lines 15 = .ok (.bipush 15, 2) := by decide +kernel
theorem dX12_lines_17 : decode cX12_lines 17 = .ok (.iand, 1) := by decide +kernel
theorem dX12_lines_18 : decode cX12_lines 18 = .ok (.ireturn, 1) := by decide +kernel
theorem dX12_isVectorNext_0 : decode cX12_isVectorNext 0 = .ok (.aload_n 0, 1) := by decide +kernel
theorem dX12_isVectorNext_1 : decode cX12_isVectorNext 1 = .ok (.getfield 9, 3) := by decide +kernel
theorem dX12_isVectorNext_4 : decode cX12_isVectorNext 4 = .ok (.bipush 6, 2) := by decide +kernel
theorem dX12_isVectorNext_6 : decode cX12_isVectorNext 6 = .ok (.iaload, 1) := by decide +kernel
theorem dX12_isVectorNext_7 : decode cX12_isVectorNext 7 = .ok (.iconst 1, 1) := by decide +kernel
theorem dX12_isVectorNext_8 : decode cX12_isVectorNext 8 = .ok (.if_icmp .eq 18, 3) := by decide +kernel
theorem dX12_isVectorNext_11 : decode cX12_isVectorNext 11 = .ok (.aload_n 0, 1) := by decide +kernel
theorem dX12_isVectorNext_12 : decode cX12_isVectorNext 12 = .ok (.iconst 4, 1) := by decide +kernel
theorem dX12_isVectorNext_13 : decode cX12_isVectorNext 13 = .ok (.invokevirtual 197, 3) := by decide +kernel
theorem dX12_isVectorNext_16 : decode cX12_isVectorNext 16 = .ok (.ifCond .ne 14, 3) := by decide +kernel
theorem dX12_isVectorNext_19 : decode cX12_isVectorNext 19 = .ok (.aload_n 0, 1) := by decide +kernel
theorem dX12_isVectorNext_20 : decode cX12_isVectorNext 20 = .ok (.invokevirtual 247, 3) := by decide +kernel
theorem dX12_isVectorNext_23 : decode cX12_isVectorNext 23 = .ok (.ifCond .le 7, 3) := by decide +kernel
theorem dX12_isVectorNext_26 : decode cX12_isVectorNext 26 = .ok (.iconst 1, 1) := by decide +kernel
theorem dX12_isVectorNext_27 : decode cX12_isVectorNext 27 = .ok (.goto 4, 3) := by decide +kernel
theorem dX12_isVectorNext_30 : decode cX12_isVectorNext 30 = .ok (.iconst 0, 1) := by decide +kernel
theorem dX12_isVectorNext_31 : decode cX12_isVectorNext 31 = .ok (.ireturn, 1) := by decide +kernel
theorem dX12_isOver_0 : decode cX12_isOver 0 = .ok (.aload_n 0, 1) := by decide +kernel
theorem dX12_isOver_1 : decode cX12_isOver 1 = .ok (.getfield 9, 3) := by decide +kernel
theorem dX12_isOver_4 : decode cX12_isOver 4 = .ok (.iconst 5, 1) := by decide +kernel
theorem dX12_isOver_5 : decode cX12_isOver 5 = .ok (.iaload, 1) := by decide +kernel
theorem dX12_isOver_6 : decode cX12_isOver 6 = .ok (.iconst 2, 1) := by decide +kernel
theorem dX12_isOver_7 : decode cX12_isOver 7 = .ok (.if_icmp .lt 7, 3) := by decide +kernel
theorem dX12_isOver_10 : decode cX12_isOver 10 = .ok (.iconst 1, 1) := by decide +kernel
theorem dX12_isOver_11 : decode cX12_isOver 11 = .ok (.goto 4, 3) := by decide +kernel
theorem dX12_isOver_14 : decode cX12_isOver 14 = .ok (.iconst 0, 1) := by decide +kernel
theorem dX12_isOver_15 : decode cX12_isOver 15 = .ok (.ireturn, 1) := by decide +kernel
theorem dX12_act_0 : decode cX12_act 0 = .ok (.aload_n 0, 1) := by decide +kernel
theorem dX12_act_1 : decode cX12_act 1 = .ok (.getfield 9, 3) := by decide +kernel
theorem dX12_act_4 : decode cX12_act 4 = .ok (.bipush 6, 2) := by decide +kernel
theorem dX12_act_6 : decode cX12_act 6 = .ok (.iaload, 1) := by decide +kernel
theorem dX12_act_7 : decode cX12_act 7 = .ok (.iconst 1, 1) := by decide +kernel
theorem dX12_act_8 : decode cX12_act 8 = .ok (.if_icmp .ne 16, 3) := by decide +kernel
theorem dX12_act_11 : decode cX12_act 11 = .ok (.aload_n 0, 1) := by decide +kernel
theorem dX12_act_12 : decode cX12_act 12 = .ok (.bipush 6, 2) := by decide +kernel
theorem dX12_act_14 : decode cX12_act 14 = .ok (.iconst 0, 1) := by decide +kernel
theorem dX12_act_15 : decode cX12_act 15 = .ok (.invokevirtual 154, 3) := by decide +kernel
theorem dX12_act_18 : decode cX12_act 18 = .ok (.aload_n 0, 1) := by decide +kernel
theorem dX12_act_19 : decode cX12_act 19 = .ok (.iconst 1, 1) := by decide +kernel
theorem dX12_act_20 : decode cX12_act 20 = .ok (.invokevirtual 250, 3) := by decide +kernel
theorem dX12_act_23 : decode cX12_act 23 = .ok (.return_, 1) := by decide +kernel
theorem dX12_act_24 : decode cX12_act 24 = .ok (.aload_n 0, 1) := by decide +kernel
theorem dX12_act_25 : decode cX12_act 25 = .ok (.invokevirtual 247, 3) := by decide +kernel
theorem dX12_act_28 : decode cX12_act 28 = .ok (.istore_n 1, 1) := by decide +kernel
theorem dX12_act_29 : decode cX12_act 29 = .ok (.iload_n 1, 1) := by decide +kernel
theorem dX12_act_30 : decode cX12_act 30 = .ok (.ifCond .le 35, 3) := by decide +kernel
theorem dX12_act_33 : decode cX12_act 33 = .ok (.aload_n 0, 1) := by decide +kernel
theorem dX12_act_34 : decode cX12_act 34 = .ok (.iconst 4, 1) := by decide +kernel
theorem dX12_act_35 : decode cX12_act 35 = .ok (.invokevirtual 197, 3) := by decide +kernel
theorem dX12_act_38 : decode cX12_act 38 = .ok (.ifCond .ne 27, 3) := by decide +kernel
theorem dX12_act_41 : decode cX12_act 41 = .ok (.iconst 0, 1) := by decide +kernel
theorem dX12_act_42 : decode cX12_act 42 = .ok (.istore_n 2, 1) := by decide +kernel
theorem dX12_act_43 : decode cX12_act 43 = .ok (.iload_n 1, 1) := by decide +kernel
theorem dX12_act_44 : decode cX12_act 44 = .ok (.iload_n 2, 1) := by decide +kernel
theorem dX12_act_45 : decode cX12_act 45 = .ok (.ishr, 1) := by decide +kernel
theorem dX12_act_46 : decode cX12_act 46 = .ok (.iconst 2, 1) := by decide +kernel
theorem dX12_act_47 : decode cX12_act 47 = .ok (.irem, 1) := by decide +kernel
theorem dX12_act_48 : decode cX12_act 48 = .ok (.ifCond .ne 9, 3) := by decide +kernel
theorem dX12_act_51 : decode cX12_act 51 = .ok (.iinc 2 1, 3) := by decide +kernel
theorem dX12_act_54 : decode cX12_act 54 = .ok (.goto (-11), 3) := by decide +kernel
theorem dX12_act_57 : decode cX12_act 57 = .ok (.aload_n 0, 1) := by decide +kernel
theorem dX12_act_58 : decode cX12_act 58 = .ok (.iconst 2, 1) := by decide +kernel
theorem dX12_act_59 : decode cX12_act 59 = .ok (.iload_n 2, 1) := by decide +kernel
theorem dX12_act_60 : decode cX12_act 60 = .ok (.iadd, 1) := by decide +kernel
theorem dX12_act_61 : decode cX12_act 61 = .ok (.invokevirtual 250, 3) := by decide +kernel
theorem dX12_act_64 : decode cX12_act 64 = .ok (.return_, 1) := by decide +kernel
theorem dX12_act_65 : decode cX12_act 65 = .ok (.aload_n 0, 1) := by decide +kernel
theorem dX12_act_66 : decode cX12_act 66 = .ok (.getfield 9, 3) := by decide +kernel
theorem dX12_act_69 : decode cX12_act 69 = .ok (.iconst 5, 1) := by decide +kernel
theorem dX12_act_70 : decode cX12_act 70 = .ok (.iaload, 1) := by decide +kernel
theorem dX12_act_71 : decode cX12_act 71 = .ok (.iconst 1, 1) := by decide +kernel
theorem dX12_act_72 : decode cX12_act 72 = .ok (.if_icmp .ne 19, 3) := by decide +kernel
theorem dX12_act_75 : decode cX12_act 75 = .ok (.iload_n 1, 1) := by decide +kernel
theorem dX12_act_76 : decode cX12_act 76 = .ok (.ifCond .ne 9, 3) := by decide +kernel
theorem dX12_act_79 : decode cX12_act 79 = .ok (.aload_n 0, 1) := by decide +kernel
theorem dX12_act_80 : decode cX12_act 80 = .ok (.iconst 1, 1) := by decide +kernel
theorem dX12_act_81 : decode cX12_act 81 = .ok (.putfield 131, 3) := by decide +kernel
theorem dX12_act_84 : decode cX12_act 84 = .ok (.return_, 1) := by decide +kernel
theorem dX12_act_85 : decode cX12_act 85 = .ok (.aload_n 0, 1) := by decide +kernel
theorem dX12_act_86 : decode cX12_act 86 = .ok (.iconst 5, 1) := by decide +kernel
theorem dX12_act_87 : decode cX12_act 87 = .ok (.iconst 0, 1) := by decide +kernel
theorem dX12_act_88 : decode cX12_act 88 = .ok (.invokevirtual 154, 3) := by decide +kernel
theorem dX12_act_91 : decode cX12_act 91 = .ok (.aload_n 0, 1) := by decide +kernel
theorem dX12_act_92 : decode cX12_act 92 = .ok (.aload_n 0, 1) := by decide +kernel
theorem dX12_act_93 : decode cX12_act 93 = .ok (.getfield 9, 3) := by decide +kernel
theorem dX12_act_96 : decode cX12_act 96 = .ok (.iconst 4, 1) := by decide +kernel
theorem dX12_act_97 : decode cX12_act 97 = .ok (.iaload, 1) := by decide +kernel
theorem dX12_act_98 : decode cX12_act 98 = .ok (.invokevirtual 125, 3) := by decide +kernel
theorem dX12_act_101 : decode cX12_act 101 = .ok (.istore_n 2, 1) := by decide +kernel
theorem dX12_act_102 : decode cX12_act 102 = .ok (.iload_n 2, 1) := by decide +kernel
theorem dX12_act_103 : decode cX12_act 103 = .ok (.invokestatic 253, 3) := by decide +kernel
theorem dX12_act_106 : decode cX12_act 106 = .ok (.ifCond .eq 11, 3) := by decide +kernel
theorem dX12_act_109 : decode cX12_act 109 = .ok (.aload_n 0, 1) := by decide +kernel
theorem dX12_act_110 : decode cX12_act 110 = .ok (.iload_n 2, 1) := by decide +kernel
theorem dX12_act_111 : decode cX12_act 111 = .ok (.invokevirtual 256, 3) := by decide +kernel
theorem dX12_act_114 : decode cX12_act 114 = .ok (.goto 14, 3) := by decide +kernel
theorem dX12_act_117 : decode cX12_act 117 = .ok (.aload_n 0, 1) := by decide +kernel
theorem dX12_act_118 : decode cX12_act 118 = .ok (.iconst 5, 1) := by decide +kernel
theorem dX12_act_119 : decode cX12_act 119 = .ok (.iconst 3, 1) := by decide +kernel
theorem dX12_act_120 : decode cX12_act 120 = .ok (.invokevirtual 154, 3) := by decide +kernel
theorem dX12_act_123 : decode cX12_act 123 = .ok (.aload_n 0, 1) := by decide +kernel
theorem dX12_act_124 : decode cX12_act 124 = .ok (.iconst 1, 1) := by decide +kernel
theorem dX12_act_125 : decode cX12_act 125 = .ok (.putfield 131, 3) := by decide +kernel
theorem dX12_act_128 : decode cX12_act 128 = .ok (.return_, 1) := by decide +kernel
theorem dX12_one_0 : decode cX12_one 0 = .ok (.aload_n 0, 1) := by decide +kernel
theorem dX12_one_1 : decode cX12_one 1 = .ok (.iconst 0, 1) := by decide +kernel
theorem dX12_one_2 : decode cX12_one 2 = .ok (.putfield 131, 3) := by decide +kernel
theorem dX12_one_5 : decode cX12_one 5 = .ok (.aload_n 0, 1) := by decide +kernel
theorem dX12_one_6 : decode cX12_one 6 = .ok (.iconst 0, 1) := by decide +kernel
theorem dX12_one_7 : decode cX12_one 7 = .ok (.putfield 134, 3) := by decide +kernel
theorem dX12_one_10 : decode cX12_one 10 = .ok (.aload_n 0, 1) := by decide +kernel
theorem dX12_one_11 : decode cX12_one 11 = .ok (.invokevirtual 259, 3) := by decide +kernel
theorem dX12_one_14 : decode cX12_one 14 = .ok (.ifCond .eq 5, 3) := by decide +kernel
theorem dX12_one_17 : decode cX12_one 17 = .ok (.iconst 0, 1) := by decide +kernel
theorem dX12_one_18 : decode cX12_one 18 = .ok (.ireturn, 1) := by decide +kernel
theorem dX12_one_19 : decode cX12_one 19 = .ok (.aload_n 0, 1) := by decide +kernel
theorem dX12_one_20 : decode cX12_one 20 = .ok (.iconst 0, 1) := by decide +kernel
theorem dX12_one_21 : decode cX12_one 21 = .ok (.putfield 108, 3) := by decide +kernel
theorem dX12_one_24 : decode cX12_one 24 = .ok (.aload_n 0, 1) := by decide +kernel
theorem dX12_one_25 : decode cX12_one 25 = .ok (.invokevirtual 263, 3) := by decide +kernel
theorem dX12_one_28 : decode cX12_one 28 = .ok (.iconst 0, 1) := by decide +kernel
theorem dX12_one_29 : decode cX12_one 29 = .ok (.istore_n 1, 1) := by decide +kernel
theorem dX12_one_30 : decode cX12_one 30 = .ok (.iload_n 1, 1) := by decide +kernel
theorem dX12_one_31 : decode cX12_one 31 = .ok (.aload_n 0, 1) := by decide +kernel
theorem dX12_one_32 : decode cX12_one 32 = .ok (.getfield 131, 3) := by decide +kernel
theorem dX12_one_35 : decode cX12_one 35 = .ok (.if_icmp .ge 13, 3) := by decide +kernel
theorem dX12_one_38 : decode cX12_one 38 = .ok (.aload_n 0, 1) := by decide +kernel
theorem dX12_one_39 : decode cX12_one 39 = .ok (.invokevirtual 266, 3) := by decide +kernel
theorem dX12_one_42 : decode cX12_one 42 = .ok (.iinc 1 1, 3) := by decide +kernel
theorem dX12_one_45 : decode cX12_one 45 = .ok (.goto (-15), 3) := by decide +kernel
theorem dX12_one_48 : decode cX12_one 48 = .ok (.aload_n 0, 1) := by decide +kernel
theorem dX12_one_49 : decode cX12_one 49 = .ok (.bipush 7, 2) := by decide +kernel
theorem dX12_one_51 : decode cX12_one 51 = .ok (.aload_n 0, 1) := by decide +kernel
theorem dX12_one_52 : decode cX12_one 52 = .ok (.getfield 9, 3) := by decide +kernel
theorem dX12_one_55 : decode cX12_one 55 = .ok (.bipush 7, 2) := by decide +kernel
theorem dX12_one_57 : decode cX12_one 57 = .ok (.iaload, 1) := by decide +kernel
theorem dX12_one_58 : decode cX12_one 58 = .ok (.aload_n 0, 1) := by decide +kernel
theorem dX12_one_59 : decode cX12_one 59 = .ok (.getfield 131, 3) := by decide +kernel
theorem dX12_one_62 : decode cX12_one 62 = .ok (.iadd, 1) := by decide +kernel
theorem dX12_one_63 : decode cX12_one 63 = .ok (.invokevirtual 154, 3) := by decide +kernel
theorem dX12_one_66 : decode cX12_one 66 = .ok (.aload_n 0, 1) := by decide +kernel
theorem dX12_one_67 : decode cX12_one 67 = .ok (.getfield 131, 3) := by decide +kernel
theorem dX12_one_70 : decode cX12_one 70 = .ok (.ireturn, 1) := by decide +kernel
theorem dX12_oneKept_0 : decode cX12_oneKept 0 = .ok (.aload_n 0, 1) := by decide +kernel
theorem dX12_oneKept_1 : decode cX12_oneKept 1 = .ok (.invokevirtual 259, 3) := by decide +kernel
theorem dX12_oneKept_4 : decode cX12_oneKept 4 = .ok (.istore_n 1, 1) := by decide +kernel
theorem dX12_oneKept_5 : decode cX12_oneKept 5 = .ok (.aload_n 0, 1) := by decide +kernel
theorem dX12_oneKept_6 : decode cX12_oneKept 6 = .ok (.iconst 1, 1) := by decide +kernel
theorem dX12_oneKept_7 : decode cX12_oneKept 7 = .ok (.putfield 104, 3) := by decide +kernel
theorem dX12_oneKept_10 : decode cX12_oneKept 10 = .ok (.aload_n 0, 1) := by decide +kernel
theorem dX12_oneKept_11 : decode cX12_oneKept 11 = .ok (.invokevirtual 269, 3) := by decide +kernel
theorem dX12_oneKept_14 : decode cX12_oneKept 14 = .ok (.istore_n 2, 1) := by decide +kernel
theorem dX12_oneKept_15 : decode cX12_oneKept 15 = .ok (.aload_n 0, 1) := by decide +kernel
theorem dX12_oneKept_16 : decode cX12_oneKept 16 = .ok (.iconst 0, 1) := by decide +kernel
theorem dX12_oneKept_17 : decode cX12_oneKept 17 = .ok (.putfield 104, 3) := by decide +kernel
theorem dX12_oneKept_20 : decode cX12_oneKept 20 = .ok (.iload_n 1, 1) := by decide +kernel
theorem dX12_oneKept_21 : decode cX12_oneKept 21 = .ok (.ifCond .eq 5, 3) := by decide +kernel
theorem dX12_oneKept_24 : decode cX12_oneKept 24 = .ok (.iconst 0, 1) := by decide +kernel
theorem dX12_oneKept_25 : decode cX12_oneKept 25 = .ok (.ireturn, 1) := by decide +kernel
theorem dX12_oneKept_26 : decode cX12_oneKept 26 = .ok (.aload_n 0, 1) := by decide +kernel
theorem dX12_oneKept_27 : decode cX12_oneKept 27 = .ok (.getfield 272, 3) := by decide +kernel
theorem dX12_oneKept_30 : decode cX12_oneKept 30 = .ok (.sipush 200, 3) := by decide +kernel
theorem dX12_oneKept_33 : decode cX12_oneKept 33 = .ok (.if_icmp .ne 29, 3) := by decide +kernel
theorem dX12_oneKept_36 : decode cX12_oneKept 36 = .ok (.aload_n 0, 1) := by decide +kernel
theorem dX12_oneKept_37 : decode cX12_oneKept 37 = .ok (.getfield 14, 3) := by decide +kernel
theorem dX12_oneKept_40 : decode cX12_oneKept 40 = .ok (.iconst 1, 1) := by decide +kernel
theorem dX12_oneKept_41 : decode cX12_oneKept 41 = .ok (.aload_n 0, 1) := by decide +kernel
theorem dX12_oneKept_42 : decode cX12_oneKept 42 = .ok (.getfield 14, 3) := by decide +kernel
theorem dX12_oneKept_45 : decode cX12_oneKept 45 = .ok (.iconst 0, 1) := by decide +kernel
theorem dX12_oneKept_46 : decode cX12_oneKept 46 = .ok (.sipush 199, 3) := by decide +kernel
theorem dX12_oneKept_49 : decode cX12_oneKept 49 = .ok (.invokestatic 111, 3) := by decide +kernel
theorem dX12_oneKept_52 : decode cX12_oneKept 52 = .ok (.aload_n 0, 1) := by decide +kernel
theorem dX12_oneKept_53 : decode cX12_oneKept 53 = .ok (.dup, 1) := by decide +kernel
theorem dX12_oneKept_54 : decode cX12_oneKept 54 = .ok (.getfield 272, 3) := by decide +kernel
theorem dX12_oneKept_57 : decode cX12_oneKept 57 = .ok (.iconst 1, 1) := by decide +kernel
theorem dX12_oneKept_58 : decode cX12_oneKept 58 = .ok (.isub, 1) := by decide +kernel
theorem dX12_oneKept_59 : decode cX12_oneKept 59 = .ok (.putfield 272, 3) := by decide +kernel
theorem dX12_oneKept_62 : decode cX12_oneKept 62 = .ok (.aload_n 0, 1) := by decide +kernel
theorem dX12_oneKept_63 : decode cX12_oneKept 63 = .ok (.getfield 14, 3) := by decide +kernel
theorem dX12_oneKept_66 : decode cX12_oneKept 66 = .ok (.aload_n 0, 1) := by decide +kernel
theorem dX12_oneKept_67 : decode cX12_oneKept 67 = .ok (.getfield 272, 3) := by decide +kernel
theorem dX12_oneKept_70 : decode cX12_oneKept 70 = .ok (.aload_n 0, 1) := by decide +kernel
theorem dX12_oneKept_71 : decode cX12_oneKept 71 = .ok (.getfield 108, 3) := by decide +kernel
theorem dX12_oneKept_74 : decode cX12_oneKept 74 = .ok (.newarray .int, 2) := by decide +kernel
theorem dX12_oneKept_76 : decode cX12_oneKept 76 = .ok (.aastore, 1) := by decide +kernel
theorem dX12_oneKept_77 : decode cX12_oneKept 77 = .ok (.aload_n 0, 1) := by decide +kernel
theorem dX12_oneKept_78 : decode cX12_oneKept 78 = .ok (.getfield 18, 3) := by decide +kernel
theorem dX12_oneKept_81 : decode cX12_oneKept 81 = .ok (.iconst 0, 1) := by decide +kernel
theorem dX12_oneKept_82 : decode cX12_oneKept 82 = .ok (.aload_n 0, 1) := by decide +kernel
theorem dX12_oneKept_83 : decode cX12_oneKept 83 = .ok (.getfield 14, 3) := by decide +kernel
theorem dX12_oneKept_86 : decode cX12_oneKept 86 = .ok (.aload_n 0, 1) := by decide +kernel
theorem dX12_oneKept_87 : decode cX12_oneKept 87 = .ok (.getfield 272, 3) := by decide +kernel
theorem dX12_oneKept_90 : decode cX12_oneKept 90 = .ok (.aaload, 1) := by decide +kernel
theorem dX12_oneKept_91 : decode cX12_oneKept 91 = .ok (.iconst 0, 1) := by decide +kernel
theorem dX12_oneKept_92 : decode cX12_oneKept 92 = .ok (.aload_n 0, 1) := by decide +kernel
theorem dX12_oneKept_93 : decode cX12_oneKept 93 = .ok (.getfield 108, 3) := by decide +kernel
theorem dX12_oneKept_96 : decode cX12_oneKept 96 = .ok (.invokestatic 111, 3) := by decide +kernel
theorem dX12_oneKept_99 : decode cX12_oneKept 99 = .ok (.aload_n 0, 1) := by decide +kernel
theorem dX12_oneKept_100 : decode cX12_oneKept 100 = .ok (.dup, 1) := by decide +kernel
theorem dX12_oneKept_101 : decode cX12_oneKept 101 = .ok (.getfield 272, 3) := by decide +kernel
theorem dX12_oneKept_104 : decode cX12_oneKept 104 = .ok (.iconst 1, 1) := by decide +kernel
theorem dX12_oneKept_105 : decode cX12_oneKept 105 = .ok (.iadd, 1) := by decide +kernel
theorem dX12_oneKept_106 : decode cX12_oneKept 106 = .ok (.putfield 272, 3) := by decide +kernel
theorem dX12_oneKept_109 : decode cX12_oneKept 109 = .ok (.iload_n 2, 1) := by decide +kernel
theorem dX12_oneKept_110 : decode cX12_oneKept 110 = .ok (.ireturn, 1) := by decide +kernel
theorem dX12_forget_0 : decode cX12_forget 0 = .ok (.aload_n 0, 1) := by decide +kernel
theorem dX12_forget_1 : decode cX12_forget 1 = .ok (.iconst 0, 1) := by decide +kernel
theorem dX12_forget_2 : decode cX12_forget 2 = .ok (.putfield 272, 3) := by decide +kernel
theorem dX12_forget_5 : decode cX12_forget 5 = .ok (.return_, 1) := by decide +kernel
theorem dX12_start_0 : decode cX12_start 0 = .ok (.bipush 17, 2) := by decide +kernel
theorem dX12_start_2 : decode cX12_start 2 = .ok (.newarray .int, 2) := by decide +kernel
theorem dX12_start_4 : decode cX12_start 4 = .ok (.dup, 1) := by decide +kernel
theorem dX12_start_5 : decode cX12_start 5 = .ok (.iconst 0, 1) := by decide +kernel
theorem dX12_start_6 : decode cX12_start 6 = .ok (.iconst 0, 1) := by decide +kernel
theorem dX12_start_7 : decode cX12_start 7 = .ok (.iastore, 1) := by decide +kernel
theorem dX12_start_8 : decode cX12_start 8 = .ok (.dup, 1) := by decide +kernel
theorem dX12_start_9 : decode cX12_start 9 = .ok (.iconst 1, 1) := by decide +kernel
theorem dX12_start_10 : decode cX12_start 10 = .ok (.iconst 1, 1) := by decide +kernel
theorem dX12_start_11 : decode cX12_start 11 = .ok (.iastore, 1) := by decide +kernel
theorem dX12_start_12 : decode cX12_start 12 = .ok (.dup, 1) := by decide +kernel
theorem dX12_start_13 : decode cX12_start 13 = .ok (.iconst 2, 1) := by decide +kernel
theorem dX12_start_14 : decode cX12_start 14 = .ok (.iconst 5, 1) := by decide +kernel
theorem dX12_start_15 : decode cX12_start 15 = .ok (.iastore, 1) := by decide +kernel
theorem dX12_start_16 : decode cX12_start 16 = .ok (.dup, 1) := by decide +kernel
theorem dX12_start_17 : decode cX12_start 17 = .ok (.iconst 3, 1) := by decide +kernel
theorem dX12_start_18 : decode cX12_start 18 = .ok (.bipush 6, 2) := by decide +kernel
theorem dX12_start_20 : decode cX12_start 20 = .ok (.iastore, 1) := by decide +kernel
theorem dX12_start_21 : decode cX12_start 21 = .ok (.dup, 1) := by decide +kernel
theorem dX12_start_22 : decode cX12_start 22 = .ok (.iconst 4, 1) := by decide +kernel
theorem dX12_start_23 : decode cX12_start 23 = .ok (.bipush 7, 2) := by decide +kernel
theorem dX12_start_25 : decode cX12_start 25 = .ok (.iastore, 1) := by decide +kernel
theorem dX12_start_26 : decode cX12_start 26 = .ok (.dup, 1) := by decide +kernel
theorem dX12_start_27 : decode cX12_start 27 = .ok (.iconst 5, 1) := by decide +kernel
theorem dX12_start_28 : decode cX12_start 28 = .ok (.bipush 8, 2) := by decide +kernel
theorem dX12_start_30 : decode cX12_start 30 = .ok (.iastore, 1) := by decide +kernel
theorem dX12_start_31 : decode cX12_start 31 = .ok (.dup, 1) := by decide +kernel
theorem dX12_start_32 : decode cX12_start 32 = .ok (.bipush 6, 2) := by decide +kernel
theorem dX12_start_34 : decode cX12_start 34 = .ok (.bipush 9, 2) := by decide +kernel
theorem dX12_start_36 : decode cX12_start 36 = .ok (.iastore, 1) := by decide +kernel
theorem dX12_start_37 : decode cX12_start 37 = .ok (.dup, 1) := by decide +kernel
theorem dX12_start_38 : decode cX12_start 38 = .ok (.bipush 7, 2) := by decide +kernel
theorem dX12_start_40 : decode cX12_start 40 = .ok (.bipush 10, 2) := by decide +kernel
theorem dX12_start_42 : decode cX12_start 42 = .ok (.iastore, 1) := by decide +kernel
theorem dX12_start_43 : decode cX12_start 43 = .ok (.dup, 1) := by decide +kernel
theorem dX12_start_44 : decode cX12_start 44 = .ok (.bipush 8, 2) := by decide +kernel
theorem dX12_start_46 : decode cX12_start 46 = .ok (.bipush 11, 2) := by decide +kernel
theorem dX12_start_48 : decode cX12_start 48 = .ok (.iastore, 1) := by decide +kernel
theorem dX12_start_49 : decode cX12_start 49 = .ok (.dup, 1) := by decide +kernel
theorem dX12_start_50 : decode cX12_start 50 = .ok (.bipush 9, 2) := by decide +kernel
theorem dX12_start_52 : decode cX12_start 52 = .ok (.bipush 12, 2) := by decide +kernel
theorem dX12_start_54 : decode cX12_start 54 = .ok (.iastore, 1) := by decide +kernel
theorem dX12_start_55 : decode cX12_start 55 = .ok (.dup, 1) := by decide +kernel
theorem dX12_start_56 : decode cX12_start 56 = .ok (.bipush 10, 2) := by decide +kernel
theorem dX12_start_58 : decode cX12_start 58 = .ok (.bipush 13, 2) := by decide +kernel
theorem dX12_start_60 : decode cX12_start 60 = .ok (.iastore, 1) := by decide +kernel
theorem dX12_start_61 : decode cX12_start 61 = .ok (.dup, 1) := by decide +kernel
theorem dX12_start_62 : decode cX12_start 62 = .ok (.bipush 11, 2) := by decide +kernel
theorem dX12_start_64 : decode cX12_start 64 = .ok (.bipush 14, 2) := by decide +kernel
theorem dX12_start_66 : decode cX12_start 66 = .ok (.iastore, 1) := by decide +kernel
theorem dX12_start_67 : decode cX12_start 67 = .ok (.dup, 1) := by decide +kernel
theorem dX12_start_68 : decode cX12_start 68 = .ok (.bipush 12, 2) := by decide +kernel
theorem dX12_start_70 : decode cX12_start 70 = .ok (.bipush 16, 2) := by decide +kernel
theorem dX12_start_72 : decode cX12_start 72 = .ok (.iastore, 1) := by decide +kernel
theorem dX12_start_73 : decode cX12_start 73 = .ok (.dup, 1) := by decide +kernel
theorem dX12_start_74 : decode cX12_start 74 = .ok (.bipush 13, 2) := by decide +kernel
theorem dX12_start_76 : decode cX12_start 76 = .ok (.bipush 17, 2) := by decide +kernel
theorem dX12_start_78 : decode cX12_start 78 = .ok (.iastore, 1) := by decide +kernel
theorem dX12_start_79 : decode cX12_start 79 = .ok (.dup, 1) := by decide +kernel
theorem dX12_start_80 : decode cX12_start 80 = .ok (.bipush 14, 2) := by decide +kernel
theorem dX12_start_82 : decode cX12_start 82 = .ok (.bipush 18, 2) := by decide +kernel
theorem dX12_start_84 : decode cX12_start 84 = .ok (.iastore, 1) := by decide +kernel
theorem dX12_start_85 : decode cX12_start 85 = .ok (.dup, 1) := by decide +kernel
theorem dX12_start_86 : decode cX12_start 86 = .ok (.bipush 15, 2) := by decide +kernel
theorem dX12_start_88 : decode cX12_start 88 = .ok (.bipush 19, 2) := by decide +kernel
theorem dX12_start_90 : decode cX12_start 90 = .ok (.iastore, 1) := by decide +kernel
theorem dX12_start_91 : decode cX12_start 91 = .ok (.dup, 1) := by decide +kernel
theorem dX12_start_92 : decode cX12_start 92 = .ok (.bipush 16, 2) := by decide +kernel
theorem dX12_start_94 : decode cX12_start 94 = .ok (.bipush 20, 2) := by decide +kernel
theorem dX12_start_96 : decode cX12_start 96 = .ok (.iastore, 1) := by decide +kernel
theorem dX12_start_97 : decode cX12_start 97 = .ok (.astore_n 1, 1) := by decide +kernel
theorem dX12_start_98 : decode cX12_start 98 = .ok (.aload_n 1, 1) := by decide +kernel
theorem dX12_start_99 : decode cX12_start 99 = .ok (.astore_n 2, 1) := by decide +kernel
theorem dX12_start_100 : decode cX12_start 100 = .ok (.aload_n 2, 1) := by decide +kernel
theorem dX12_start_101 : decode cX12_start 101 = .ok (.arraylength, 1) := by decide +kernel
theorem dX12_start_102 : decode cX12_start 102 = .ok (.istore_n 3, 1) := by decide +kernel
theorem dX12_start_103 : decode cX12_start 103 = .ok (.iconst 0, 1) := by decide +kernel
theorem dX12_start_104 : decode cX12_start 104 = .ok (.istore 4, 2) := by decide +kernel
theorem dX12_start_106 : decode cX12_start 106 = .ok (.iload 4, 2) := by decide +kernel
theorem dX12_start_108 : decode cX12_start 108 = .ok (.iload_n 3, 1) := by decide +kernel
theorem dX12_start_109 : decode cX12_start 109 = .ok (.if_icmp .ge 23, 3) := by decide +kernel
theorem dX12_start_112 : decode cX12_start 112 = .ok (.aload_n 2, 1) := by decide +kernel
theorem dX12_start_113 : decode cX12_start 113 = .ok (.iload 4, 2) := by decide +kernel
theorem dX12_start_115 : decode cX12_start 115 = .ok (.iaload, 1) := by decide +kernel
theorem dX12_start_116 : decode cX12_start 116 = .ok (.istore 5, 2) := by decide +kernel
theorem dX12_start_118 : decode cX12_start 118 = .ok (.aload_n 0, 1) := by decide +kernel
theorem dX12_start_119 : decode cX12_start 119 = .ok (.getfield 9, 3) := by decide +kernel
theorem dX12_start_122 : decode cX12_start 122 = .ok (.iload 5, 2) := by decide +kernel
theorem dX12_start_124 : decode cX12_start 124 = .ok (.iconst 0, 1) := by decide +kernel
theorem dX12_start_125 : decode cX12_start 125 = .ok (.iastore, 1) := by decide +kernel
theorem dX12_start_126 : decode cX12_start 126 = .ok (.iinc 4 1, 3) := by decide +kernel
theorem dX12_start_129 : decode cX12_start 129 = .ok (.goto (-23), 3) := by decide +kernel
theorem dX12_start_132 : decode cX12_start 132 = .ok (.iconst 0, 1) := by decide +kernel
theorem dX12_start_133 : decode cX12_start 133 = .ok (.istore_n 2, 1) := by decide +kernel
theorem dX12_start_134 : decode cX12_start 134 = .ok (.iload_n 2, 1) := by decide +kernel
theorem dX12_start_135 : decode cX12_start 135 = .ok (.sipush 4096, 3) := by decide +kernel
theorem dX12_start_138 : decode cX12_start 138 = .ok (.if_icmp .ge 20, 3) := by decide +kernel
theorem dX12_start_141 : decode cX12_start 141 = .ok (.aload_n 0, 1) := by decide +kernel
theorem dX12_start_142 : decode cX12_start 142 = .ok (.getfield 9, 3) := by decide +kernel
theorem dX12_start_145 : decode cX12_start 145 = .ok (.sipush 12109, 3) := by decide +kernel
theorem dX12_start_148 : decode cX12_start 148 = .ok (.iload_n 2, 1) := by decide +kernel
theorem dX12_start_149 : decode cX12_start 149 = .ok (.iadd, 1) := by decide +kernel
theorem dX12_start_150 : decode cX12_start 150 = .ok (.iconst 0, 1) := by decide +kernel
theorem dX12_start_151 : decode cX12_start 151 = .ok (.iastore, 1) := by decide +kernel
theorem dX12_start_152 : decode cX12_start 152 = .ok (.iinc 2 1, 3) := by decide +kernel
theorem dX12_start_155 : decode cX12_start 155 = .ok (.goto (-21), 3) := by decide +kernel
theorem dX12_start_158 : decode cX12_start 158 = .ok (.aload_n 0, 1) := by decide +kernel
theorem dX12_start_159 : decode cX12_start 159 = .ok (.getfield 9, 3) := by decide +kernel
theorem dX12_start_162 : decode cX12_start 162 = .ok (.iconst 2, 1) := by decide +kernel
theorem dX12_start_163 : decode cX12_start 163 = .ok (.sipush 255, 3) := by decide +kernel
theorem dX12_start_166 : decode cX12_start 166 = .ok (.iastore, 1) := by decide +kernel
theorem dX12_start_167 : decode cX12_start 167 = .ok (.aload_n 0, 1) := by decide +kernel
theorem dX12_start_168 : decode cX12_start 168 = .ok (.getfield 9, 3) := by decide +kernel
theorem dX12_start_171 : decode cX12_start 171 = .ok (.iconst 3, 1) := by decide +kernel
theorem dX12_start_172 : decode cX12_start 172 = .ok (.iconst 4, 1) := by decide +kernel
theorem dX12_start_173 : decode cX12_start 173 = .ok (.iastore, 1) := by decide +kernel
theorem dX12_start_174 : decode cX12_start 174 = .ok (.aload_n 0, 1) := by decide +kernel
theorem dX12_start_175 : decode cX12_start 175 = .ok (.getfield 9, 3) := by decide +kernel
theorem dX12_start_178 : decode cX12_start 178 = .ok (.bipush 15, 2) := by decide +kernel
theorem dX12_start_180 : decode cX12_start 180 = .ok (.iconst 1, 1) := by decide +kernel
theorem dX12_start_181 : decode cX12_start 181 = .ok (.iastore, 1) := by decide +kernel
theorem dX12_start_182 : decode cX12_start 182 = .ok (.aload_n 0, 1) := by decide +kernel
theorem dX12_start_183 : decode cX12_start 183 = .ok (.getfield 9, 3) := by decide +kernel
theorem dX12_start_186 : decode cX12_start 186 = .ok (.iconst 4, 1) := by decide +kernel
theorem dX12_start_187 : decode cX12_start 187 = .ok (.aload_n 0, 1) := by decide +kernel
theorem dX12_start_188 : decode cX12_start 188 = .ok (.iconst 0, 1) := by decide +kernel
theorem dX12_start_189 : decode cX12_start 189 = .ok (.invokevirtual 275, 3) := by decide +kernel
theorem dX12_start_192 : decode cX12_start 192 = .ok (.iastore, 1) := by decide +kernel
theorem dX12_start_193 : decode cX12_start 193 = .ok (.aload_n 0, 1) := by decide +kernel
theorem dX12_start_194 : decode cX12_start 194 = .ok (.iconst 0, 1) := by decide +kernel
theorem dX12_start_195 : decode cX12_start 195 = .ok (.putfield 278, 3) := by decide +kernel
theorem dX12_start_198 : decode cX12_start 198 = .ok (.aload_n 0, 1) := by decide +kernel
theorem dX12_start_199 : decode cX12_start 199 = .ok (.invokevirtual 281, 3) := by decide +kernel
theorem dX12_start_202 : decode cX12_start 202 = .ok (.return_, 1) := by decide +kernel
theorem dX12_at_0 : decode cX12_at 0 = .ok (.iload_n 1, 1) := by decide +kernel
theorem dX12_at_1 : decode cX12_at 1 = .ok (.aload_n 0, 1) := by decide +kernel
theorem dX12_at_2 : decode cX12_at 2 = .ok (.getfield 284, 3) := by decide +kernel
theorem dX12_at_5 : decode cX12_at 5 = .ok (.if_icmp .ge 16, 3) := by decide +kernel
theorem dX12_at_8 : decode cX12_at 8 = .ok (.aload_n 0, 1) := by decide +kernel
theorem dX12_at_9 : decode cX12_at 9 = .ok (.getfield 44, 3) := by decide +kernel
theorem dX12_at_12 : decode cX12_at 12 = .ok (.iload_n 1, 1) := by decide +kernel
theorem dX12_at_13 : decode cX12_at 13 = .ok (.baload, 1) := by decide +kernel
theorem dX12_at_14 : decode cX12_at 14 = .ok (.sipush 255, 3) := by decide +kernel
theorem dX12_at_17 : decode cX12_at 17 = .ok (.iand, 1) := by decide +kernel
theorem dX12_at_18 : decode cX12_at 18 = .ok (.goto 5, 3) := by decide +kernel
theorem dX12_at_21 : decode cX12_at 21 = .ok (.bipush 10, 2) := by decide +kernel
theorem dX12_at_23 : decode cX12_at 23 = .ok (.ireturn, 1) := by decide +kernel
theorem dX12_token_0 : decode cX12_token 0 = .ok (.aload_n 0, 1) := by decide +kernel
theorem dX12_token_1 : decode cX12_token 1 = .ok (.getfield 48, 3) := by decide +kernel
theorem dX12_token_4 : decode cX12_token 4 = .ok (.aload_n 0, 1) := by decide +kernel
theorem dX12_token_5 : decode cX12_token 5 = .ok (.getfield 293, 3) := by decide +kernel
theorem dX12_token_8 : decode cX12_token 8 = .ok (.iload_n 1, 1) := by decide +kernel
theorem dX12_token_9 : decode cX12_token 9 = .ok (.iastore, 1) := by decide +kernel
theorem dX12_token_10 : decode cX12_token 10 = .ok (.aload_n 0, 1) := by decide +kernel
theorem dX12_token_11 : decode cX12_token 11 = .ok (.getfield 51, 3) := by decide +kernel
theorem dX12_token_14 : decode cX12_token 14 = .ok (.aload_n 0, 1) := by decide +kernel
theorem dX12_token_15 : decode cX12_token 15 = .ok (.getfield 293, 3) := by decide +kernel
theorem dX12_token_18 : decode cX12_token 18 = .ok (.iload_n 2, 1) := by decide +kernel
theorem dX12_token_19 : decode cX12_token 19 = .ok (.iastore, 1) := by decide +kernel
theorem dX12_token_20 : decode cX12_token 20 = .ok (.aload_n 0, 1) := by decide +kernel
theorem dX12_token_21 : decode cX12_token 21 = .ok (.getfield 54, 3) := by decide +kernel
theorem dX12_token_24 : decode cX12_token 24 = .ok (.aload_n 0, 1) := by decide +kernel
theorem dX12_token_25 : decode cX12_token 25 = .ok (.getfield 293, 3) := by decide +kernel
theorem dX12_token_28 : decode cX12_token 28 = .ok (.iload_n 3, 1) := by decide +kernel
theorem dX12_token_29 : decode cX12_token 29 = .ok (.iastore, 1) := by decide +kernel
theorem dX12_token_30 : decode cX12_token 30 = .ok (.aload_n 0, 1) := by decide +kernel
theorem dX12_token_31 : decode cX12_token 31 = .ok (.getfield 57, 3) := by decide +kernel
theorem dX12_token_34 : decode cX12_token 34 = .ok (.aload_n 0, 1) := by decide +kernel
theorem dX12_token_35 : decode cX12_token 35 = .ok (.getfield 293, 3) := by decide +kernel
theorem dX12_token_38 : decode cX12_token 38 = .ok (.iload 4, 2) := by decide +kernel
theorem dX12_token_40 : decode cX12_token 40 = .ok (.iastore, 1) := by decide +kernel
theorem dX12_token_41 : decode cX12_token 41 = .ok (.aload_n 0, 1) := by decide +kernel
theorem dX12_token_42 : decode cX12_token 42 = .ok (.dup, 1) := by decide +kernel
theorem dX12_token_43 : decode cX12_token 43 = .ok (.getfield 293, 3) := by decide +kernel
theorem dX12_token_46 : decode cX12_token 46 = .ok (.iconst 1, 1) := by decide +kernel
theorem dX12_token_47 : decode cX12_token 47 = .ok (.iadd, 1) := by decide +kernel
theorem dX12_token_48 : decode cX12_token 48 = .ok (.putfield 293, 3) := by decide +kernel
theorem dX12_token_51 : decode cX12_token 51 = .ok (.return_, 1) := by decide +kernel
