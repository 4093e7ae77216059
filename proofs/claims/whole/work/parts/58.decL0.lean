theorem d_L_cell_0 : decode b_L_cell 0 = .ok (.iload_n 1, 1) := by decide +kernel
theorem d_L_cell_1 : decode b_L_cell 1 = .ok (.aload_n 0, 1) := by decide +kernel
theorem d_L_cell_2 : decode b_L_cell 2 = .ok (.arraylength, 1) := by decide +kernel
theorem d_L_cell_3 : decode b_L_cell 3 = .ok (.if_icmp .ge 9, 3) := by decide +kernel
theorem d_L_cell_6 : decode b_L_cell 6 = .ok (.aload_n 0, 1) := by decide +kernel
theorem d_L_cell_7 : decode b_L_cell 7 = .ok (.iload_n 1, 1) := by decide +kernel
theorem d_L_cell_8 : decode b_L_cell 8 = .ok (.iaload, 1) := by decide +kernel
theorem d_L_cell_9 : decode b_L_cell 9 = .ok (.goto 4, 3) := by decide +kernel
theorem d_L_cell_12 : decode b_L_cell 12 = .ok (.iconst 0, 1) := by decide +kernel
theorem d_L_cell_13 : decode b_L_cell 13 = .ok (.ireturn, 1) := by decide +kernel
theorem d_L_block_0 : decode b_L_block 0 = .ok (.aload_n 1, 1) := by decide +kernel
theorem d_L_block_1 : decode b_L_block 1 = .ok (.iconst 0, 1) := by decide +kernel
theorem d_L_block_2 : decode b_L_block 2 = .ok (.aload_n 0, 1) := by decide +kernel
theorem d_L_block_3 : decode b_L_block 3 = .ok (.invokevirtual 7, 3) := by decide +kernel
theorem d_L_block_6 : decode b_L_block 6 = .ok (.i2l, 1) := by decide +kernel
theorem d_L_block_7 : decode b_L_block 7 = .ok (.lastore, 1) := by decide +kernel
theorem d_L_block_8 : decode b_L_block 8 = .ok (.goto 6, 3) := by decide +kernel
theorem d_L_block_11 : decode b_L_block 11 = .ok (.astore_n 2, 1) := by decide +kernel
theorem d_L_block_12 : decode b_L_block 12 = .ok (.iconst 1, 1) := by decide +kernel
theorem d_L_block_13 : decode b_L_block 13 = .ok (.ireturn, 1) := by decide +kernel
theorem d_L_block_14 : decode b_L_block 14 = .ok (.iconst 0, 1) := by decide +kernel
theorem d_L_block_15 : decode b_L_block 15 = .ok (.ireturn, 1) := by decide +kernel
theorem d_L_instruction_0 : decode b_L_instruction 0 = .ok (.aload 5, 2) := by decide +kernel
theorem d_L_instruction_2 : decode b_L_instruction 2 = .ok (.iconst 0, 1) := by decide +kernel
theorem d_L_instruction_3 : decode b_L_instruction 3 = .ok (.aload_n 0, 1) := by decide +kernel
theorem d_L_instruction_4 : decode b_L_instruction 4 = .ok (.iload_n 1, 1) := by decide +kernel
theorem d_L_instruction_5 : decode b_L_instruction 5 = .ok (.iload_n 2, 1) := by decide +kernel
theorem d_L_instruction_6 : decode b_L_instruction 6 = .ok (.iload_n 3, 1) := by decide +kernel
theorem d_L_instruction_7 : decode b_L_instruction 7 = .ok (.iload 4, 2) := by decide +kernel
theorem d_L_instruction_9 : decode b_L_instruction 9 = .ok (.invokevirtual 15, 3) := by decide +kernel
theorem d_L_instruction_12 : decode b_L_instruction 12 = .ok (.i2l, 1) := by decide +kernel
theorem d_L_instruction_13 : decode b_L_instruction 13 = .ok (.lastore, 1) := by decide +kernel
theorem d_L_instruction_14 : decode b_L_instruction 14 = .ok (.goto 15, 3) := by decide +kernel
theorem d_L_instruction_17 : decode b_L_instruction 17 = .ok (.astore 6, 2) := by decide +kernel
theorem d_L_instruction_19 : decode b_L_instruction 19 = .ok (.iconst 1, 1) := by decide +kernel
theorem d_L_instruction_20 : decode b_L_instruction 20 = .ok (.ireturn, 1) := by decide +kernel
theorem d_L_instruction_21 : decode b_L_instruction 21 = .ok (.astore 6, 2) := by decide +kernel
theorem d_L_instruction_23 : decode b_L_instruction 23 = .ok (.iconst 2, 1) := by decide +kernel
theorem d_L_instruction_24 : decode b_L_instruction 24 = .ok (.ireturn, 1) := by decide +kernel
theorem d_L_instruction_25 : decode b_L_instruction 25 = .ok (.astore 6, 2) := by decide +kernel
theorem d_L_instruction_27 : decode b_L_instruction 27 = .ok (.iconst 3, 1) := by decide +kernel
theorem d_L_instruction_28 : decode b_L_instruction 28 = .ok (.ireturn, 1) := by decide +kernel
theorem d_L_instruction_29 : decode b_L_instruction 29 = .ok (.iconst 0, 1) := by decide +kernel
theorem d_L_instruction_30 : decode b_L_instruction 30 = .ok (.ireturn, 1) := by decide +kernel
theorem d_L_make_0 : decode b_L_make 0 = .ok (.aload_n 2, 1) := by decide +kernel
theorem d_L_make_1 : decode b_L_make 1 = .ok (.iconst 0, 1) := by decide +kernel
theorem d_L_make_2 : decode b_L_make 2 = .ok (.aload_n 0, 1) := by decide +kernel
theorem d_L_make_3 : decode b_L_make 3 = .ok (.iload_n 1, 1) := by decide +kernel
theorem d_L_make_4 : decode b_L_make 4 = .ok (.invokevirtual 23, 3) := by decide +kernel
theorem d_L_make_7 : decode b_L_make 7 = .ok (.i2l, 1) := by decide +kernel
theorem d_L_make_8 : decode b_L_make 8 = .ok (.lastore, 1) := by decide +kernel
theorem d_L_make_9 : decode b_L_make 9 = .ok (.goto 6, 3) := by decide +kernel
theorem d_L_make_12 : decode b_L_make 12 = .ok (.astore_n 3, 1) := by decide +kernel
theorem d_L_make_13 : decode b_L_make 13 = .ok (.iconst 1, 1) := by decide +kernel
theorem d_L_make_14 : decode b_L_make 14 = .ok (.ireturn, 1) := by decide +kernel
theorem d_L_make_15 : decode b_L_make 15 = .ok (.iconst 0, 1) := by decide +kernel
theorem d_L_make_16 : decode b_L_make 16 = .ok (.ireturn, 1) := by decide +kernel
theorem d_L_byteAt_0 : decode b_L_byteAt 0 = .ok (.aload_n 3, 1) := by decide +kernel
theorem d_L_byteAt_1 : decode b_L_byteAt 1 = .ok (.iconst 0, 1) := by decide +kernel
theorem d_L_byteAt_2 : decode b_L_byteAt 2 = .ok (.aload_n 0, 1) := by decide +kernel
theorem d_L_byteAt_3 : decode b_L_byteAt 3 = .ok (.iload_n 1, 1) := by decide +kernel
theorem d_L_byteAt_4 : decode b_L_byteAt 4 = .ok (.iload_n 2, 1) := by decide +kernel
theorem d_L_byteAt_5 : decode b_L_byteAt 5 = .ok (.invokevirtual 27, 3) := by decide +kernel
theorem d_L_byteAt_8 : decode b_L_byteAt 8 = .ok (.i2l, 1) := by decide +kernel
theorem d_L_byteAt_9 : decode b_L_byteAt 9 = .ok (.lastore, 1) := by decide +kernel
theorem d_L_byteAt_10 : decode b_L_byteAt 10 = .ok (.goto 15, 3) := by decide +kernel
theorem d_L_byteAt_13 : decode b_L_byteAt 13 = .ok (.astore 4, 2) := by decide +kernel
theorem d_L_byteAt_15 : decode b_L_byteAt 15 = .ok (.iconst 1, 1) := by decide +kernel
theorem d_L_byteAt_16 : decode b_L_byteAt 16 = .ok (.ireturn, 1) := by decide +kernel
theorem d_L_byteAt_17 : decode b_L_byteAt 17 = .ok (.astore 4, 2) := by decide +kernel
theorem d_L_byteAt_19 : decode b_L_byteAt 19 = .ok (.iconst 2, 1) := by decide +kernel
theorem d_L_byteAt_20 : decode b_L_byteAt 20 = .ok (.ireturn, 1) := by decide +kernel
theorem d_L_byteAt_21 : decode b_L_byteAt 21 = .ok (.astore 4, 2) := by decide +kernel
theorem d_L_byteAt_23 : decode b_L_byteAt 23 = .ok (.iconst 3, 1) := by decide +kernel
theorem d_L_byteAt_24 : decode b_L_byteAt 24 = .ok (.ireturn, 1) := by decide +kernel
theorem d_L_byteAt_25 : decode b_L_byteAt 25 = .ok (.iconst 0, 1) := by decide +kernel
theorem d_L_byteAt_26 : decode b_L_byteAt 26 = .ok (.ireturn, 1) := by decide +kernel
theorem d_L_alter_0 : decode b_L_alter 0 = .ok (.aload 4, 2) := by decide +kernel
theorem d_L_alter_2 : decode b_L_alter 2 = .ok (.iconst 0, 1) := by decide +kernel
theorem d_L_alter_3 : decode b_L_alter 3 = .ok (.aload_n 0, 1) := by decide +kernel
theorem d_L_alter_4 : decode b_L_alter 4 = .ok (.iload_n 1, 1) := by decide +kernel
theorem d_L_alter_5 : decode b_L_alter 5 = .ok (.iload_n 2, 1) := by decide +kernel
theorem d_L_alter_6 : decode b_L_alter 6 = .ok (.iload_n 3, 1) := by decide +kernel
theorem d_L_alter_7 : decode b_L_alter 7 = .ok (.invokevirtual 33, 3) := by decide +kernel
theorem d_L_alter_10 : decode b_L_alter 10 = .ok (.i2l, 1) := by decide +kernel
theorem d_L_alter_11 : decode b_L_alter 11 = .ok (.lastore, 1) := by decide +kernel
theorem d_L_alter_12 : decode b_L_alter 12 = .ok (.goto 15, 3) := by decide +kernel
theorem d_L_alter_15 : decode b_L_alter 15 = .ok (.astore 5, 2) := by decide +kernel
theorem d_L_alter_17 : decode b_L_alter 17 = .ok (.iconst 1, 1) := by decide +kernel
theorem d_L_alter_18 : decode b_L_alter 18 = .ok (.ireturn, 1) := by decide +kernel
theorem d_L_alter_19 : decode b_L_alter 19 = .ok (.astore 5, 2) := by decide +kernel
theorem d_L_alter_21 : decode b_L_alter 21 = .ok (.iconst 2, 1) := by decide +kernel
theorem d_L_alter_22 : decode b_L_alter 22 = .ok (.ireturn, 1) := by decide +kernel
theorem d_L_alter_23 : decode b_L_alter 23 = .ok (.astore 5, 2) := by decide +kernel
theorem d_L_alter_25 : decode b_L_alter 25 = .ok (.iconst 3, 1) := by decide +kernel
theorem d_L_alter_26 : decode b_L_alter 26 = .ok (.ireturn, 1) := by decide +kernel
theorem d_L_alter_27 : decode b_L_alter 27 = .ok (.iconst 0, 1) := by decide +kernel
theorem d_L_alter_28 : decode b_L_alter 28 = .ok (.ireturn, 1) := by decide +kernel
theorem d_L_check_0 : decode b_L_check 0 = .ok (.aload_n 2, 1) := by decide +kernel
theorem d_L_check_1 : decode b_L_check 1 = .ok (.iconst 0, 1) := by decide +kernel
theorem d_L_check_2 : decode b_L_check 2 = .ok (.aload_n 0, 1) := by decide +kernel
theorem d_L_check_3 : decode b_L_check 3 = .ok (.iload_n 1, 1) := by decide +kernel
theorem d_L_check_4 : decode b_L_check 4 = .ok (.invokevirtual 37, 3) := by decide +kernel
theorem d_L_check_7 : decode b_L_check 7 = .ok (.i2l, 1) := by decide +kernel
theorem d_L_check_8 : decode b_L_check 8 = .ok (.lastore, 1) := by decide +kernel
theorem d_L_check_9 : decode b_L_check 9 = .ok (.goto 9, 3) := by decide +kernel
theorem d_L_check_12 : decode b_L_check 12 = .ok (.astore_n 3, 1) := by decide +kernel
theorem d_L_check_13 : decode b_L_check 13 = .ok (.iconst 1, 1) := by decide +kernel
theorem d_L_check_14 : decode b_L_check 14 = .ok (.ireturn, 1) := by decide +kernel
theorem d_L_check_15 : decode b_L_check 15 = .ok (.astore_n 3, 1) := by decide +kernel
theorem d_L_check_16 : decode b_L_check 16 = .ok (.iconst 2, 1) := by decide +kernel
theorem d_L_check_17 : decode b_L_check 17 = .ok (.ireturn, 1) := by decide +kernel
theorem d_L_check_18 : decode b_L_check 18 = .ok (.iconst 0, 1) := by decide +kernel
theorem d_L_check_19 : decode b_L_check 19 = .ok (.ireturn, 1) := by decide +kernel
theorem d_L_what_0 : decode b_L_what 0 = .ok (.aload_n 3, 1) := by decide +kernel
theorem d_L_what_1 : decode b_L_what 1 = .ok (.iconst 0, 1) := by decide +kernel
theorem d_L_what_2 : decode b_L_what 2 = .ok (.aload_n 0, 1) := by decide +kernel
theorem d_L_what_3 : decode b_L_what 3 = .ok (.iload_n 1, 1) := by decide +kernel
theorem d_L_what_4 : decode b_L_what 4 = .ok (.iload_n 2, 1) := by decide +kernel
theorem d_L_what_5 : decode b_L_what 5 = .ok (.invokevirtual 40, 3) := by decide +kernel
theorem d_L_what_8 : decode b_L_what 8 = .ok (.i2l, 1) := by decide +kernel
theorem d_L_what_9 : decode b_L_what 9 = .ok (.lastore, 1) := by decide +kernel
theorem d_L_what_10 : decode b_L_what 10 = .ok (.goto 11, 3) := by decide +kernel
theorem d_L_what_13 : decode b_L_what 13 = .ok (.astore 4, 2) := by decide +kernel
theorem d_L_what_15 : decode b_L_what 15 = .ok (.iconst 1, 1) := by decide +kernel
theorem d_L_what_16 : decode b_L_what 16 = .ok (.ireturn, 1) := by decide +kernel
theorem d_L_what_17 : decode b_L_what 17 = .ok (.astore 4, 2) := by decide +kernel
theorem d_L_what_19 : decode b_L_what 19 = .ok (.iconst 2, 1) := by decide +kernel
theorem d_L_what_20 : decode b_L_what 20 = .ok (.ireturn, 1) := by decide +kernel
theorem d_L_what_21 : decode b_L_what 21 = .ok (.iconst 0, 1) := by decide +kernel
theorem d_L_what_22 : decode b_L_what 22 = .ok (.ireturn, 1) := by decide +kernel
theorem d_L_run_0 : decode b_L_run 0 = .ok (.aload 6, 2) := by decide +kernel
theorem d_L_run_2 : decode b_L_run 2 = .ok (.iconst 0, 1) := by decide +kernel
theorem d_L_run_3 : decode b_L_run 3 = .ok (.aload_n 0, 1) := by decide +kernel
theorem d_L_run_4 : decode b_L_run 4 = .ok (.iload_n 1, 1) := by decide +kernel
theorem d_L_run_5 : decode b_L_run 5 = .ok (.lload_n 2, 1) := by decide +kernel
theorem d_L_run_6 : decode b_L_run 6 = .ok (.lload 4, 2) := by decide +kernel
theorem d_L_run_8 : decode b_L_run 8 = .ok (.invokevirtual 43, 3) := by decide +kernel
theorem d_L_run_11 : decode b_L_run 11 = .ok (.i2l, 1) := by decide +kernel
theorem d_L_run_12 : decode b_L_run 12 = .ok (.lastore, 1) := by decide +kernel
theorem d_L_run_13 : decode b_L_run 13 = .ok (.goto 7, 3) := by decide +kernel
theorem d_L_run_16 : decode b_L_run 16 = .ok (.astore 7, 2) := by decide +kernel
theorem d_L_run_18 : decode b_L_run 18 = .ok (.iconst 1, 1) := by decide +kernel
theorem d_L_run_19 : decode b_L_run 19 = .ok (.ireturn, 1) := by decide +kernel
theorem d_L_run_20 : decode b_L_run 20 = .ok (.iconst 0, 1) := by decide +kernel
theorem d_L_run_21 : decode b_L_run 21 = .ok (.ireturn, 1) := by decide +kernel
theorem d_L_register_0 : decode b_L_register 0 = .ok (.aload_n 2, 1) := by decide +kernel
theorem d_L_register_1 : decode b_L_register 1 = .ok (.iconst 0, 1) := by decide +kernel
theorem d_L_register_2 : decode b_L_register 2 = .ok (.aload_n 0, 1) := by decide +kernel
theorem d_L_register_3 : decode b_L_register 3 = .ok (.iload_n 1, 1) := by decide +kernel
theorem d_L_register_4 : decode b_L_register 4 = .ok (.invokevirtual 47, 3) := by decide +kernel
theorem d_L_register_7 : decode b_L_register 7 = .ok (.lastore, 1) := by decide +kernel
theorem d_L_register_8 : decode b_L_register 8 = .ok (.goto 6, 3) := by decide +kernel
theorem d_L_register_11 : decode b_L_register 11 = .ok (.astore_n 3, 1) := by decide +kernel
theorem d_L_register_12 : decode b_L_register 12 = .ok (.iconst 1, 1) := by decide +kernel
theorem d_L_register_13 : decode b_L_register 13 = .ok (.ireturn, 1) := by decide +kernel
theorem d_L_register_14 : decode b_L_register 14 = .ok (.iconst 0, 1) := by decide +kernel
theorem d_L_register_15 : decode b_L_register 15 = .ok (.ireturn, 1) := by decide +kernel
theorem d_L_ended_0 : decode b_L_ended 0 = .ok (.aload_n 2, 1) := by decide +kernel
theorem d_L_ended_1 : decode b_L_ended 1 = .ok (.iconst 0, 1) := by decide +kernel
theorem d_L_ended_2 : decode b_L_ended 2 = .ok (.aload_n 0, 1) := by decide +kernel
theorem d_L_ended_3 : decode b_L_ended 3 = .ok (.iload_n 1, 1) := by decide +kernel
theorem d_L_ended_4 : decode b_L_ended 4 = .ok (.invokevirtual 51, 3) := by decide +kernel
theorem d_L_ended_7 : decode b_L_ended 7 = .ok (.i2l, 1) := by decide +kernel
theorem d_L_ended_8 : decode b_L_ended 8 = .ok (.lastore, 1) := by decide +kernel
theorem d_L_ended_9 : decode b_L_ended 9 = .ok (.goto 6, 3) := by decide +kernel
theorem d_L_ended_12 : decode b_L_ended 12 = .ok (.astore_n 3, 1) := by decide +kernel
theorem d_L_ended_13 : decode b_L_ended 13 = .ok (.iconst 1, 1) := by decide +kernel
theorem d_L_ended_14 : decode b_L_ended 14 = .ok (.ireturn, 1) := by decide +kernel
theorem d_L_ended_15 : decode b_L_ended 15 = .ok (.iconst 0, 1) := by decide +kernel
theorem d_L_ended_16 : decode b_L_ended 16 = .ok (.ireturn, 1) := by decide +kernel
theorem d_L_same_0 : decode b_L_same 0 = .ok (.aload 6, 2) := by decide +kernel
theorem d_L_same_2 : decode b_L_same 2 = .ok (.iconst 0, 1) := by decide +kernel
theorem d_L_same_3 : decode b_L_same 3 = .ok (.aload_n 0, 1) := by decide +kernel
theorem d_L_same_4 : decode b_L_same 4 = .ok (.iload_n 1, 1) := by decide +kernel
theorem d_L_same_5 : decode b_L_same 5 = .ok (.lload_n 2, 1) := by decide +kernel
theorem d_L_same_6 : decode b_L_same 6 = .ok (.lload 4, 2) := by decide +kernel
theorem d_L_same_8 : decode b_L_same 8 = .ok (.invokevirtual 54, 3) := by decide +kernel
theorem d_L_same_11 : decode b_L_same 11 = .ok (.ifCond .eq 7, 3) := by decide +kernel
theorem d_L_same_14 : decode b_L_same 14 = .ok (.lconst 1, 1) := by decide +kernel
theorem d_L_same_15 : decode b_L_same 15 = .ok (.goto 4, 3) := by decide +kernel
theorem d_L_same_18 : decode b_L_same 18 = .ok (.lconst 0, 1) := by decide +kernel
theorem d_L_same_19 : decode b_L_same 19 = .ok (.lastore, 1) := by decide +kernel
theorem d_L_same_20 : decode b_L_same 20 = .ok (.goto 11, 3) := by decide +kernel
theorem d_L_same_23 : decode b_L_same 23 = .ok (.astore 7, 2) := by decide +kernel
theorem d_L_same_25 : decode b_L_same 25 = .ok (.iconst 1, 1) := by decide +kernel
theorem d_L_same_26 : decode b_L_same 26 = .ok (.ireturn, 1) := by decide +kernel
theorem d_L_same_27 : decode b_L_same 27 = .ok (.astore 7, 2) := by decide +kernel
theorem d_L_same_29 : decode b_L_same 29 = .ok (.iconst 2, 1) := by decide +kernel
theorem d_L_same_30 : decode b_L_same 30 = .ok (.ireturn, 1) := by decide +kernel
theorem d_L_same_31 : decode b_L_same 31 = .ok (.iconst 0, 1) := by decide +kernel
theorem d_L_same_32 : decode b_L_same 32 = .ok (.ireturn, 1) := by decide +kernel
