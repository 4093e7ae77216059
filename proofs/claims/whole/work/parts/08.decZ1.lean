theorem d_Z_init_0 : decode b_Z_init 0 = .ok (.aload_n 0, 1) := by decide +kernel
theorem d_Z_init_1 : decode b_Z_init 1 = .ok (.invokespecial 1, 3) := by decide +kernel
theorem d_Z_init_4 : decode b_Z_init 4 = .ok (.aload_n 0, 1) := by decide +kernel
theorem d_Z_init_5 : decode b_Z_init 5 = .ok (.bipush 24, 2) := by decide +kernel
theorem d_Z_init_7 : decode b_Z_init 7 = .ok (.newarray .int, 2) := by decide +kernel
theorem d_Z_init_9 : decode b_Z_init 9 = .ok (.putfield 7, 3) := by decide +kernel
theorem d_Z_init_12 : decode b_Z_init 12 = .ok (.aload_n 0, 1) := by decide +kernel
theorem d_Z_init_13 : decode b_Z_init 13 = .ok (.sipush 1440, 3) := by decide +kernel
theorem d_Z_init_16 : decode b_Z_init 16 = .ok (.newarray .int, 2) := by decide +kernel
theorem d_Z_init_18 : decode b_Z_init 18 = .ok (.putfield 13, 3) := by decide +kernel
theorem d_Z_init_21 : decode b_Z_init 21 = .ok (.aload_n 0, 1) := by decide +kernel
theorem d_Z_init_22 : decode b_Z_init 22 = .ok (.sipush 1440, 3) := by decide +kernel
theorem d_Z_init_25 : decode b_Z_init 25 = .ok (.newarray .int, 2) := by decide +kernel
theorem d_Z_init_27 : decode b_Z_init 27 = .ok (.putfield 16, 3) := by decide +kernel
theorem d_Z_init_30 : decode b_Z_init 30 = .ok (.aload_n 0, 1) := by decide +kernel
theorem d_Z_init_31 : decode b_Z_init 31 = .ok (.sipush 1440, 3) := by decide +kernel
theorem d_Z_init_34 : decode b_Z_init 34 = .ok (.newarray .int, 2) := by decide +kernel
theorem d_Z_init_36 : decode b_Z_init 36 = .ok (.putfield 19, 3) := by decide +kernel
theorem d_Z_init_39 : decode b_Z_init 39 = .ok (.aload_n 0, 1) := by decide +kernel
theorem d_Z_init_40 : decode b_Z_init 40 = .ok (.bipush 24, 2) := by decide +kernel
theorem d_Z_init_42 : decode b_Z_init 42 = .ok (.newarray .int, 2) := by decide +kernel
theorem d_Z_init_44 : decode b_Z_init 44 = .ok (.putfield 22, 3) := by decide +kernel
theorem d_Z_init_47 : decode b_Z_init 47 = .ok (.aload_n 0, 1) := by decide +kernel
theorem d_Z_init_48 : decode b_Z_init 48 = .ok (.bipush 24, 2) := by decide +kernel
theorem d_Z_init_50 : decode b_Z_init 50 = .ok (.newarray .int, 2) := by decide +kernel
theorem d_Z_init_52 : decode b_Z_init 52 = .ok (.putfield 25, 3) := by decide +kernel
theorem d_Z_init_55 : decode b_Z_init 55 = .ok (.aload_n 0, 1) := by decide +kernel
theorem d_Z_init_56 : decode b_Z_init 56 = .ok (.bipush 24, 2) := by decide +kernel
theorem d_Z_init_58 : decode b_Z_init 58 = .ok (.newarray .int, 2) := by decide +kernel
theorem d_Z_init_60 : decode b_Z_init 60 = .ok (.putfield 28, 3) := by decide +kernel
theorem d_Z_init_63 : decode b_Z_init 63 = .ok (.aload_n 0, 1) := by decide +kernel
theorem d_Z_init_64 : decode b_Z_init 64 = .ok (.sipush 7200, 3) := by decide +kernel
theorem d_Z_init_67 : decode b_Z_init 67 = .ok (.newarray .int, 2) := by decide +kernel
theorem d_Z_init_69 : decode b_Z_init 69 = .ok (.putfield 31, 3) := by decide +kernel
theorem d_Z_init_72 : decode b_Z_init 72 = .ok (.aload_n 0, 1) := by decide +kernel
theorem d_Z_init_73 : decode b_Z_init 73 = .ok (.bipush 61, 2) := by decide +kernel
theorem d_Z_init_75 : decode b_Z_init 75 = .ok (.newarray .int, 2) := by decide +kernel
theorem d_Z_init_77 : decode b_Z_init 77 = .ok (.putfield 34, 3) := by decide +kernel
theorem d_Z_init_80 : decode b_Z_init 80 = .ok (.aload_n 0, 1) := by decide +kernel
theorem d_Z_init_81 : decode b_Z_init 81 = .ok (.sipush 301, 3) := by decide +kernel
theorem d_Z_init_84 : decode b_Z_init 84 = .ok (.newarray .int, 2) := by decide +kernel
theorem d_Z_init_86 : decode b_Z_init 86 = .ok (.putfield 37, 3) := by decide +kernel
theorem d_Z_init_89 : decode b_Z_init 89 = .ok (.aload_n 0, 1) := by decide +kernel
theorem d_Z_init_90 : decode b_Z_init 90 = .ok (.iconst 4, 1) := by decide +kernel
theorem d_Z_init_91 : decode b_Z_init 91 = .ok (.newarray .long, 2) := by decide +kernel
theorem d_Z_init_93 : decode b_Z_init 93 = .ok (.putfield 40, 3) := by decide +kernel
theorem d_Z_init_96 : decode b_Z_init 96 = .ok (.aload_n 0, 1) := by decide +kernel
theorem d_Z_init_97 : decode b_Z_init 97 = .ok (.bipush 8, 2) := by decide +kernel
theorem d_Z_init_99 : decode b_Z_init 99 = .ok (.newarray .long, 2) := by decide +kernel
theorem d_Z_init_101 : decode b_Z_init 101 = .ok (.putfield 44, 3) := by decide +kernel
theorem d_Z_init_104 : decode b_Z_init 104 = .ok (.aload_n 0, 1) := by decide +kernel
theorem d_Z_init_105 : decode b_Z_init 105 = .ok (.iconst 4, 1) := by decide +kernel
theorem d_Z_init_106 : decode b_Z_init 106 = .ok (.newarray .long, 2) := by decide +kernel
theorem d_Z_init_108 : decode b_Z_init 108 = .ok (.putfield 47, 3) := by decide +kernel
theorem d_Z_init_111 : decode b_Z_init 111 = .ok (.aload_n 0, 1) := by decide +kernel
theorem d_Z_init_112 : decode b_Z_init 112 = .ok (.iconst 4, 1) := by decide +kernel
theorem d_Z_init_113 : decode b_Z_init 113 = .ok (.newarray .long, 2) := by decide +kernel
theorem d_Z_init_115 : decode b_Z_init 115 = .ok (.putfield 50, 3) := by decide +kernel
theorem d_Z_init_118 : decode b_Z_init 118 = .ok (.aload_n 0, 1) := by decide +kernel
theorem d_Z_init_119 : decode b_Z_init 119 = .ok (.iconst 1, 1) := by decide +kernel
theorem d_Z_init_120 : decode b_Z_init 120 = .ok (.iload_n 1, 1) := by decide +kernel
theorem d_Z_init_121 : decode b_Z_init 121 = .ok (.iconst 1, 1) := by decide +kernel
theorem d_Z_init_122 : decode b_Z_init 122 = .ok (.isub, 1) := by decide +kernel
theorem d_Z_init_123 : decode b_Z_init 123 = .ok (.bipush 7, 2) := by decide +kernel
theorem d_Z_init_125 : decode b_Z_init 125 = .ok (.iand, 1) := by decide +kernel
theorem d_Z_init_126 : decode b_Z_init 126 = .ok (.iadd, 1) := by decide +kernel
theorem d_Z_init_127 : decode b_Z_init 127 = .ok (.putfield 53, 3) := by decide +kernel
theorem d_Z_init_130 : decode b_Z_init 130 = .ok (.return_, 1) := by decide +kernel
theorem d_Z_thrown_0 : decode b_Z_thrown 0 = .ok (.aload_n 0, 1) := by decide +kernel
theorem d_Z_thrown_1 : decode b_Z_thrown 1 = .ok (.getfield 57, 3) := by decide +kernel
theorem d_Z_thrown_4 : decode b_Z_thrown 4 = .ok (.ireturn, 1) := by decide +kernel
theorem d_Z_block_0 : decode b_Z_block 0 = .ok (.aload_n 0, 1) := by decide +kernel
theorem d_Z_block_1 : decode b_Z_block 1 = .ok (.iconst 0, 1) := by decide +kernel
theorem d_Z_block_2 : decode b_Z_block 2 = .ok (.putfield 57, 3) := by decide +kernel
theorem d_Z_block_5 : decode b_Z_block 5 = .ok (.aload_n 0, 1) := by decide +kernel
theorem d_Z_block_6 : decode b_Z_block 6 = .ok (.getfield 60, 3) := by decide +kernel
theorem d_Z_block_9 : decode b_Z_block 9 = .ok (.bipush 24, 2) := by decide +kernel
theorem d_Z_block_11 : decode b_Z_block 11 = .ok (.if_icmp .ne 9, 3) := by decide +kernel
theorem d_Z_block_14 : decode b_Z_block 14 = .ok (.aload_n 0, 1) := by decide +kernel
theorem d_Z_block_15 : decode b_Z_block 15 = .ok (.iconst 1, 1) := by decide +kernel
theorem d_Z_block_16 : decode b_Z_block 16 = .ok (.invokevirtual 67, 3) := by decide +kernel
theorem d_Z_block_19 : decode b_Z_block 19 = .ok (.ireturn, 1) := by decide +kernel
theorem d_Z_block_20 : decode b_Z_block 20 = .ok (.aload_n 0, 1) := by decide +kernel
theorem d_Z_block_21 : decode b_Z_block 21 = .ok (.dup, 1) := by decide +kernel
theorem d_Z_block_22 : decode b_Z_block 22 = .ok (.getfield 60, 3) := by decide +kernel
theorem d_Z_block_25 : decode b_Z_block 25 = .ok (.iconst 1, 1) := by decide +kernel
theorem d_Z_block_26 : decode b_Z_block 26 = .ok (.iadd, 1) := by decide +kernel
theorem d_Z_block_27 : decode b_Z_block 27 = .ok (.putfield 60, 3) := by decide +kernel
theorem d_Z_block_30 : decode b_Z_block 30 = .ok (.aload_n 0, 1) := by decide +kernel
theorem d_Z_block_31 : decode b_Z_block 31 = .ok (.getfield 60, 3) := by decide +kernel
theorem d_Z_block_34 : decode b_Z_block 34 = .ok (.iconst 1, 1) := by decide +kernel
theorem d_Z_block_35 : decode b_Z_block 35 = .ok (.isub, 1) := by decide +kernel
theorem d_Z_block_36 : decode b_Z_block 36 = .ok (.ireturn, 1) := by decide +kernel
theorem d_Z_fail_0 : decode b_Z_fail 0 = .ok (.aload_n 0, 1) := by decide +kernel
theorem d_Z_fail_1 : decode b_Z_fail 1 = .ok (.iload_n 1, 1) := by decide +kernel
theorem d_Z_fail_2 : decode b_Z_fail 2 = .ok (.putfield 57, 3) := by decide +kernel
theorem d_Z_fail_5 : decode b_Z_fail 5 = .ok (.iconst 0, 1) := by decide +kernel
theorem d_Z_fail_6 : decode b_Z_fail 6 = .ok (.ireturn, 1) := by decide +kernel
theorem d_Z_instruction_0 : decode b_Z_instruction 0 = .ok (.aload_n 0, 1) := by decide +kernel
theorem d_Z_instruction_1 : decode b_Z_instruction 1 = .ok (.iload_n 1, 1) := by decide +kernel
theorem d_Z_instruction_2 : decode b_Z_instruction 2 = .ok (.invokevirtual 71, 3) := by decide +kernel
theorem d_Z_instruction_5 : decode b_Z_instruction 5 = .ok (.ifCond .ne 5, 3) := by decide +kernel
theorem d_Z_instruction_8 : decode b_Z_instruction 8 = .ok (.iconst 0, 1) := by decide +kernel
theorem d_Z_instruction_9 : decode b_Z_instruction 9 = .ok (.ireturn, 1) := by decide +kernel
theorem d_Z_instruction_10 : decode b_Z_instruction 10 = .ok (.iload_n 2, 1) := by decide +kernel
theorem d_Z_instruction_11 : decode b_Z_instruction 11 = .ok (.iload_n 3, 1) := by decide +kernel
theorem d_Z_instruction_12 : decode b_Z_instruction 12 = .ok (.iload 4, 2) := by decide +kernel
theorem d_Z_instruction_14 : decode b_Z_instruction 14 = .ok (.invokestatic 75, 3) := by decide +kernel
theorem d_Z_instruction_17 : decode b_Z_instruction 17 = .ok (.ifCond .ne 9, 3) := by decide +kernel
theorem d_Z_instruction_20 : decode b_Z_instruction 20 = .ok (.aload_n 0, 1) := by decide +kernel
theorem d_Z_instruction_21 : decode b_Z_instruction 21 = .ok (.iconst 2, 1) := by decide +kernel
theorem d_Z_instruction_22 : decode b_Z_instruction 22 = .ok (.invokevirtual 67, 3) := by decide +kernel
theorem d_Z_instruction_25 : decode b_Z_instruction 25 = .ok (.ireturn, 1) := by decide +kernel
theorem d_Z_instruction_26 : decode b_Z_instruction 26 = .ok (.aload_n 0, 1) := by decide +kernel
theorem d_Z_instruction_27 : decode b_Z_instruction 27 = .ok (.getfield 7, 3) := by decide +kernel
theorem d_Z_instruction_30 : decode b_Z_instruction 30 = .ok (.iload_n 1, 1) := by decide +kernel
theorem d_Z_instruction_31 : decode b_Z_instruction 31 = .ok (.iaload, 1) := by decide +kernel
theorem d_Z_instruction_32 : decode b_Z_instruction 32 = .ok (.bipush 60, 2) := by decide +kernel
theorem d_Z_instruction_34 : decode b_Z_instruction 34 = .ok (.if_icmp .ne 9, 3) := by decide +kernel
theorem d_Z_instruction_37 : decode b_Z_instruction 37 = .ok (.aload_n 0, 1) := by decide +kernel
theorem d_Z_instruction_38 : decode b_Z_instruction 38 = .ok (.iconst 3, 1) := by decide +kernel
theorem d_Z_instruction_39 : decode b_Z_instruction 39 = .ok (.invokevirtual 67, 3) := by decide +kernel
theorem d_Z_instruction_42 : decode b_Z_instruction 42 = .ok (.ireturn, 1) := by decide +kernel
theorem d_Z_instruction_43 : decode b_Z_instruction 43 = .ok (.bipush 60, 2) := by decide +kernel
theorem d_Z_instruction_45 : decode b_Z_instruction 45 = .ok (.iload_n 1, 1) := by decide +kernel
theorem d_Z_instruction_46 : decode b_Z_instruction 46 = .ok (.imul, 1) := by decide +kernel
theorem d_Z_instruction_47 : decode b_Z_instruction 47 = .ok (.aload_n 0, 1) := by decide +kernel
theorem d_Z_instruction_48 : decode b_Z_instruction 48 = .ok (.getfield 7, 3) := by decide +kernel
theorem d_Z_instruction_51 : decode b_Z_instruction 51 = .ok (.iload_n 1, 1) := by decide +kernel
theorem d_Z_instruction_52 : decode b_Z_instruction 52 = .ok (.iaload, 1) := by decide +kernel
theorem d_Z_instruction_53 : decode b_Z_instruction 53 = .ok (.iadd, 1) := by decide +kernel
theorem d_Z_instruction_54 : decode b_Z_instruction 54 = .ok (.istore 5, 2) := by decide +kernel
theorem d_Z_instruction_56 : decode b_Z_instruction 56 = .ok (.aload_n 0, 1) := by decide +kernel
theorem d_Z_instruction_57 : decode b_Z_instruction 57 = .ok (.getfield 13, 3) := by decide +kernel
theorem d_Z_instruction_60 : decode b_Z_instruction 60 = .ok (.iload 5, 2) := by decide +kernel
theorem d_Z_instruction_62 : decode b_Z_instruction 62 = .ok (.iload_n 2, 1) := by decide +kernel
theorem d_Z_instruction_63 : decode b_Z_instruction 63 = .ok (.iastore, 1) := by decide +kernel
theorem d_Z_instruction_64 : decode b_Z_instruction 64 = .ok (.aload_n 0, 1) := by decide +kernel
theorem d_Z_instruction_65 : decode b_Z_instruction 65 = .ok (.getfield 16, 3) := by decide +kernel
theorem d_Z_instruction_68 : decode b_Z_instruction 68 = .ok (.iload 5, 2) := by decide +kernel
theorem d_Z_instruction_70 : decode b_Z_instruction 70 = .ok (.iload_n 3, 1) := by decide +kernel
theorem d_Z_instruction_71 : decode b_Z_instruction 71 = .ok (.iastore, 1) := by decide +kernel
theorem d_Z_instruction_72 : decode b_Z_instruction 72 = .ok (.aload_n 0, 1) := by decide +kernel
theorem d_Z_instruction_73 : decode b_Z_instruction 73 = .ok (.getfield 19, 3) := by decide +kernel
theorem d_Z_instruction_76 : decode b_Z_instruction 76 = .ok (.iload 5, 2) := by decide +kernel
theorem d_Z_instruction_78 : decode b_Z_instruction 78 = .ok (.iload 4, 2) := by decide +kernel
theorem d_Z_instruction_80 : decode b_Z_instruction 80 = .ok (.iastore, 1) := by decide +kernel
theorem d_Z_instruction_81 : decode b_Z_instruction 81 = .ok (.aload_n 0, 1) := by decide +kernel
theorem d_Z_instruction_82 : decode b_Z_instruction 82 = .ok (.getfield 7, 3) := by decide +kernel
theorem d_Z_instruction_85 : decode b_Z_instruction 85 = .ok (.iload_n 1, 1) := by decide +kernel
theorem d_Z_instruction_86 : decode b_Z_instruction 86 = .ok (.dup2, 1) := by decide +kernel
theorem d_Z_instruction_87 : decode b_Z_instruction 87 = .ok (.iaload, 1) := by decide +kernel
theorem d_Z_instruction_88 : decode b_Z_instruction 88 = .ok (.iconst 1, 1) := by decide +kernel
theorem d_Z_instruction_89 : decode b_Z_instruction 89 = .ok (.iadd, 1) := by decide +kernel
theorem d_Z_instruction_90 : decode b_Z_instruction 90 = .ok (.iastore, 1) := by decide +kernel
theorem d_Z_instruction_91 : decode b_Z_instruction 91 = .ok (.aload_n 0, 1) := by decide +kernel
theorem d_Z_instruction_92 : decode b_Z_instruction 92 = .ok (.getfield 22, 3) := by decide +kernel
theorem d_Z_instruction_95 : decode b_Z_instruction 95 = .ok (.iload_n 1, 1) := by decide +kernel
theorem d_Z_instruction_96 : decode b_Z_instruction 96 = .ok (.iconst 0, 1) := by decide +kernel
theorem d_Z_instruction_97 : decode b_Z_instruction 97 = .ok (.iastore, 1) := by decide +kernel
theorem d_Z_instruction_98 : decode b_Z_instruction 98 = .ok (.aload_n 0, 1) := by decide +kernel
theorem d_Z_instruction_99 : decode b_Z_instruction 99 = .ok (.getfield 7, 3) := by decide +kernel
theorem d_Z_instruction_102 : decode b_Z_instruction 102 = .ok (.iload_n 1, 1) := by decide +kernel
theorem d_Z_instruction_103 : decode b_Z_instruction 103 = .ok (.iaload, 1) := by decide +kernel
theorem d_Z_instruction_104 : decode b_Z_instruction 104 = .ok (.ireturn, 1) := by decide +kernel
theorem d_Z_isBlock_0 : decode b_Z_isBlock 0 = .ok (.aload_n 0, 1) := by decide +kernel
theorem d_Z_isBlock_1 : decode b_Z_isBlock 1 = .ok (.iload_n 1, 1) := by decide +kernel
theorem d_Z_isBlock_2 : decode b_Z_isBlock 2 = .ok (.iconst 0, 1) := by decide +kernel
theorem d_Z_isBlock_3 : decode b_Z_isBlock 3 = .ok (.aload_n 0, 1) := by decide +kernel
theorem d_Z_isBlock_4 : decode b_Z_isBlock 4 = .ok (.getfield 60, 3) := by decide +kernel
theorem d_Z_isBlock_7 : decode b_Z_isBlock 7 = .ok (.iconst 1, 1) := by decide +kernel
theorem d_Z_isBlock_8 : decode b_Z_isBlock 8 = .ok (.isub, 1) := by decide +kernel
theorem d_Z_isBlock_9 : decode b_Z_isBlock 9 = .ok (.invokestatic 63, 3) := by decide +kernel
theorem d_Z_isBlock_12 : decode b_Z_isBlock 12 = .ok (.ifCond .eq 7, 3) := by decide +kernel
theorem d_Z_isBlock_15 : decode b_Z_isBlock 15 = .ok (.iconst 0, 1) := by decide +kernel
theorem d_Z_isBlock_16 : decode b_Z_isBlock 16 = .ok (.goto 4, 3) := by decide +kernel
theorem d_Z_isBlock_19 : decode b_Z_isBlock 19 = .ok (.iconst 1, 1) := by decide +kernel
theorem d_Z_isBlock_20 : decode b_Z_isBlock 20 = .ok (.putfield 57, 3) := by decide +kernel
theorem d_Z_isBlock_23 : decode b_Z_isBlock 23 = .ok (.aload_n 0, 1) := by decide +kernel
theorem d_Z_isBlock_24 : decode b_Z_isBlock 24 = .ok (.getfield 57, 3) := by decide +kernel
theorem d_Z_isBlock_27 : decode b_Z_isBlock 27 = .ok (.ifCond .ne 7, 3) := by decide +kernel
theorem d_Z_isBlock_30 : decode b_Z_isBlock 30 = .ok (.iconst 1, 1) := by decide +kernel
theorem d_Z_isBlock_31 : decode b_Z_isBlock 31 = .ok (.goto 4, 3) := by decide +kernel
theorem d_Z_isBlock_34 : decode b_Z_isBlock 34 = .ok (.iconst 0, 1) := by decide +kernel
theorem d_Z_isBlock_35 : decode b_Z_isBlock 35 = .ok (.ireturn, 1) := by decide +kernel
theorem d_Z_within_0 : decode b_Z_within 0 = .ok (.iload_n 0, 1) := by decide +kernel
theorem d_Z_within_1 : decode b_Z_within 1 = .ok (.iload_n 1, 1) := by decide +kernel
theorem d_Z_within_2 : decode b_Z_within 2 = .ok (.if_icmp .lt 12, 3) := by decide +kernel
theorem d_Z_within_5 : decode b_Z_within 5 = .ok (.iload_n 0, 1) := by decide +kernel
theorem d_Z_within_6 : decode b_Z_within 6 = .ok (.iload_n 2, 1) := by decide +kernel
theorem d_Z_within_7 : decode b_Z_within 7 = .ok (.if_icmp .gt 7, 3) := by decide +kernel
theorem d_Z_within_10 : decode b_Z_within 10 = .ok (.iconst 1, 1) := by decide +kernel
theorem d_Z_within_11 : decode b_Z_within 11 = .ok (.goto 4, 3) := by decide +kernel
theorem d_Z_within_14 : decode b_Z_within 14 = .ok (.iconst 0, 1) := by decide +kernel
theorem d_Z_within_15 : decode b_Z_within 15 = .ok (.ireturn, 1) := by decide +kernel
theorem d_Z_isInstruction_0 : decode b_Z_isInstruction 0 = .ok (.iload_n 0, 1) := by decide +kernel
theorem d_Z_isInstruction_1 : decode b_Z_isInstruction 1 = .ok (.iconst 0, 1) := by decide +kernel
theorem d_Z_isInstruction_2 : decode b_Z_isInstruction 2 = .ok (.bipush 7, 2) := by decide +kernel
theorem d_Z_isInstruction_4 : decode b_Z_isInstruction 4 = .ok (.invokestatic 63, 3) := by decide +kernel
theorem d_Z_isInstruction_7 : decode b_Z_isInstruction 7 = .ok (.ifCond .eq 12, 3) := by decide +kernel
theorem d_Z_isInstruction_10 : decode b_Z_isInstruction 10 = .ok (.iload_n 1, 1) := by decide +kernel
theorem d_Z_isInstruction_11 : decode b_Z_isInstruction 11 = .ok (.iconst 0, 1) := by decide +kernel
theorem d_Z_isInstruction_12 : decode b_Z_isInstruction 12 = .ok (.iconst 3, 1) := by decide +kernel
theorem d_Z_isInstruction_13 : decode b_Z_isInstruction 13 = .ok (.invokestatic 63, 3) := by decide +kernel
theorem d_Z_isInstruction_16 : decode b_Z_isInstruction 16 = .ok (.ifCond .ne 5, 3) := by decide +kernel
theorem d_Z_isInstruction_19 : decode b_Z_isInstruction 19 = .ok (.iconst 0, 1) := by decide +kernel
theorem d_Z_isInstruction_20 : decode b_Z_isInstruction 20 = .ok (.ireturn, 1) := by decide +kernel
theorem d_Z_isInstruction_21 : decode b_Z_isInstruction 21 = .ok (.iload_n 0, 1) := by decide +kernel
theorem d_Z_isInstruction_22 : decode b_Z_isInstruction 22 = .ok (.ifCond .eq 31, 3) := by decide +kernel
theorem d_Z_isInstruction_25 : decode b_Z_isInstruction 25 = .ok (.iload_n 0, 1) := by decide +kernel
theorem d_Z_isInstruction_26 : decode b_Z_isInstruction 26 = .ok (.bipush 6, 2) := by decide +kernel
theorem d_Z_isInstruction_28 : decode b_Z_isInstruction 28 = .ok (.if_icmp .ne 16, 3) := by decide +kernel
theorem d_Z_isInstruction_31 : decode b_Z_isInstruction 31 = .ok (.iload_n 2, 1) := by decide +kernel
theorem d_Z_isInstruction_32 : decode b_Z_isInstruction 32 = .ok (.iconst 0, 1) := by decide +kernel
theorem d_Z_isInstruction_33 : decode b_Z_isInstruction 33 = .ok (.bipush 60, 2) := by decide +kernel
theorem d_Z_isInstruction_35 : decode b_Z_isInstruction 35 = .ok (.invokestatic 63, 3) := by decide +kernel
theorem d_Z_isInstruction_38 : decode b_Z_isInstruction 38 = .ok (.ifCond .eq 19, 3) := by decide +kernel
theorem d_Z_isInstruction_41 : decode b_Z_isInstruction 41 = .ok (.goto 12, 3) := by decide +kernel
theorem d_Z_isInstruction_44 : decode b_Z_isInstruction 44 = .ok (.iload_n 2, 1) := by decide +kernel
theorem d_Z_isInstruction_45 : decode b_Z_isInstruction 45 = .ok (.iconst 0, 1) := by decide +kernel
theorem d_Z_isInstruction_46 : decode b_Z_isInstruction 46 = .ok (.iconst 3, 1) := by decide +kernel
theorem d_Z_isInstruction_47 : decode b_Z_isInstruction 47 = .ok (.invokestatic 63, 3) := by decide +kernel
theorem d_Z_isInstruction_50 : decode b_Z_isInstruction 50 = .ok (.ifCond .eq 7, 3) := by decide +kernel
theorem d_Z_isInstruction_53 : decode b_Z_isInstruction 53 = .ok (.iconst 1, 1) := by decide +kernel
theorem d_Z_isInstruction_54 : decode b_Z_isInstruction 54 = .ok (.goto 4, 3) := by decide +kernel
theorem d_Z_isInstruction_57 : decode b_Z_isInstruction 57 = .ok (.iconst 0, 1) := by decide +kernel
theorem d_Z_isInstruction_58 : decode b_Z_isInstruction 58 = .ok (.ireturn, 1) := by decide +kernel
theorem d_Z_make_0 : decode b_Z_make 0 = .ok (.aload_n 0, 1) := by decide +kernel
theorem d_Z_make_1 : decode b_Z_make 1 = .ok (.iload_n 1, 1) := by decide +kernel
theorem d_Z_make_2 : decode b_Z_make 2 = .ok (.invokevirtual 71, 3) := by decide +kernel
theorem d_Z_make_5 : decode b_Z_make 5 = .ok (.ifCond .ne 5, 3) := by decide +kernel
theorem d_Z_make_8 : decode b_Z_make 8 = .ok (.iconst 0, 1) := by decide +kernel
theorem d_Z_make_9 : decode b_Z_make 9 = .ok (.ireturn, 1) := by decide +kernel
theorem d_Z_make_10 : decode b_Z_make 10 = .ok (.iconst 0, 1) := by decide +kernel
theorem d_Z_make_11 : decode b_Z_make 11 = .ok (.istore_n 2, 1) := by decide +kernel
theorem d_Z_make_12 : decode b_Z_make 12 = .ok (.iconst 0, 1) := by decide +kernel
theorem d_Z_make_13 : decode b_Z_make 13 = .ok (.istore_n 3, 1) := by decide +kernel
theorem d_Z_make_14 : decode b_Z_make 14 = .ok (.iload_n 3, 1) := by decide +kernel
theorem d_Z_make_15 : decode b_Z_make 15 = .ok (.aload_n 0, 1) := by decide +kernel
theorem d_Z_make_16 : decode b_Z_make 16 = .ok (.getfield 7, 3) := by decide +kernel
theorem d_Z_make_19 : decode b_Z_make 19 = .ok (.iload_n 1, 1) := by decide +kernel
theorem d_Z_make_20 : decode b_Z_make 20 = .ok (.iaload, 1) := by decide +kernel
theorem d_Z_make_21 : decode b_Z_make 21 = .ok (.if_icmp .ge 44, 3) := by decide +kernel
theorem d_Z_make_24 : decode b_Z_make 24 = .ok (.aload_n 0, 1) := by decide +kernel
theorem d_Z_make_25 : decode b_Z_make 25 = .ok (.getfield 34, 3) := by decide +kernel
theorem d_Z_make_28 : decode b_Z_make 28 = .ok (.iload_n 3, 1) := by decide +kernel
theorem d_Z_make_29 : decode b_Z_make 29 = .ok (.iload_n 2, 1) := by decide +kernel
theorem d_Z_make_30 : decode b_Z_make 30 = .ok (.iastore, 1) := by decide +kernel
theorem d_Z_make_31 : decode b_Z_make 31 = .ok (.iload_n 2, 1) := by decide +kernel
theorem d_Z_make_32 : decode b_Z_make 32 = .ok (.aload_n 0, 1) := by decide +kernel
theorem d_Z_make_33 : decode b_Z_make 33 = .ok (.getfield 13, 3) := by decide +kernel
theorem d_Z_make_36 : decode b_Z_make 36 = .ok (.bipush 60, 2) := by decide +kernel
theorem d_Z_make_38 : decode b_Z_make 38 = .ok (.iload_n 1, 1) := by decide +kernel
theorem d_Z_make_39 : decode b_Z_make 39 = .ok (.imul, 1) := by decide +kernel
theorem d_Z_make_40 : decode b_Z_make 40 = .ok (.iload_n 3, 1) := by decide +kernel
theorem d_Z_make_41 : decode b_Z_make 41 = .ok (.iadd, 1) := by decide +kernel
theorem d_Z_make_42 : decode b_Z_make 42 = .ok (.iaload, 1) := by decide +kernel
theorem d_Z_make_43 : decode b_Z_make 43 = .ok (.aload_n 0, 1) := by decide +kernel
theorem d_Z_make_44 : decode b_Z_make 44 = .ok (.getfield 19, 3) := by decide +kernel
theorem d_Z_make_47 : decode b_Z_make 47 = .ok (.bipush 60, 2) := by decide +kernel
theorem d_Z_make_49 : decode b_Z_make 49 = .ok (.iload_n 1, 1) := by decide +kernel
theorem d_Z_make_50 : decode b_Z_make 50 = .ok (.imul, 1) := by decide +kernel
theorem d_Z_make_51 : decode b_Z_make 51 = .ok (.iload_n 3, 1) := by decide +kernel
theorem d_Z_make_52 : decode b_Z_make 52 = .ok (.iadd, 1) := by decide +kernel
theorem d_Z_make_53 : decode b_Z_make 53 = .ok (.iaload, 1) := by decide +kernel
theorem d_Z_make_54 : decode b_Z_make 54 = .ok (.invokestatic 89, 3) := by decide +kernel
theorem d_Z_make_57 : decode b_Z_make 57 = .ok (.iadd, 1) := by decide +kernel
theorem d_Z_make_58 : decode b_Z_make 58 = .ok (.istore_n 2, 1) := by decide +kernel
theorem d_Z_make_59 : decode b_Z_make 59 = .ok (.iinc 3 1, 3) := by decide +kernel
theorem d_Z_make_62 : decode b_Z_make 62 = .ok (.goto (-48), 3) := by decide +kernel
theorem d_Z_make_65 : decode b_Z_make 65 = .ok (.aload_n 0, 1) := by decide +kernel
theorem d_Z_make_66 : decode b_Z_make 66 = .ok (.getfield 34, 3) := by decide +kernel
theorem d_Z_make_69 : decode b_Z_make 69 = .ok (.aload_n 0, 1) := by decide +kernel
theorem d_Z_make_70 : decode b_Z_make 70 = .ok (.getfield 7, 3) := by decide +kernel
theorem d_Z_make_73 : decode b_Z_make 73 = .ok (.iload_n 1, 1) := by decide +kernel
theorem d_Z_make_74 : decode b_Z_make 74 = .ok (.iaload, 1) := by decide +kernel
theorem d_Z_make_75 : decode b_Z_make 75 = .ok (.iload_n 2, 1) := by decide +kernel
theorem d_Z_make_76 : decode b_Z_make 76 = .ok (.iastore, 1) := by decide +kernel
theorem d_Z_make_77 : decode b_Z_make 77 = .ok (.aload_n 0, 1) := by decide +kernel
theorem d_Z_make_78 : decode b_Z_make 78 = .ok (.getfield 22, 3) := by decide +kernel
theorem d_Z_make_81 : decode b_Z_make 81 = .ok (.iload_n 1, 1) := by decide +kernel
theorem d_Z_make_82 : decode b_Z_make 82 = .ok (.iconst 0, 1) := by decide +kernel
theorem d_Z_make_83 : decode b_Z_make 83 = .ok (.iastore, 1) := by decide +kernel
theorem d_Z_make_84 : decode b_Z_make 84 = .ok (.iload_n 2, 1) := by decide +kernel
theorem d_Z_make_85 : decode b_Z_make 85 = .ok (.iconst 1, 1) := by decide +kernel
theorem d_Z_make_86 : decode b_Z_make 86 = .ok (.iadd, 1) := by decide +kernel
theorem d_Z_make_87 : decode b_Z_make 87 = .ok (.sipush 300, 3) := by decide +kernel
theorem d_Z_make_90 : decode b_Z_make 90 = .ok (.if_icmp .le 5, 3) := by decide +kernel
theorem d_Z_make_93 : decode b_Z_make 93 = .ok (.iconst (-1), 1) := by decide +kernel
theorem d_Z_make_94 : decode b_Z_make 94 = .ok (.ireturn, 1) := by decide +kernel
theorem d_Z_make_95 : decode b_Z_make 95 = .ok (.aload_n 0, 1) := by decide +kernel
theorem d_Z_make_96 : decode b_Z_make 96 = .ok (.iconst 0, 1) := by decide +kernel
theorem d_Z_make_97 : decode b_Z_make 97 = .ok (.putfield 78, 3) := by decide +kernel
theorem d_Z_make_100 : decode b_Z_make 100 = .ok (.iconst 0, 1) := by decide +kernel
theorem d_Z_make_101 : decode b_Z_make 101 = .ok (.istore_n 3, 1) := by decide +kernel
theorem d_Z_make_102 : decode b_Z_make 102 = .ok (.iload_n 3, 1) := by decide +kernel
theorem d_Z_make_103 : decode b_Z_make 103 = .ok (.aload_n 0, 1) := by decide +kernel
theorem d_Z_make_104 : decode b_Z_make 104 = .ok (.getfield 7, 3) := by decide +kernel
theorem d_Z_make_107 : decode b_Z_make 107 = .ok (.iload_n 1, 1) := by decide +kernel
theorem d_Z_make_108 : decode b_Z_make 108 = .ok (.iaload, 1) := by decide +kernel
theorem d_Z_make_109 : decode b_Z_make 109 = .ok (.if_icmp .ge 20, 3) := by decide +kernel
theorem d_Z_make_112 : decode b_Z_make 112 = .ok (.aload_n 0, 1) := by decide +kernel
theorem d_Z_make_113 : decode b_Z_make 113 = .ok (.iload_n 1, 1) := by decide +kernel
theorem d_Z_make_114 : decode b_Z_make 114 = .ok (.bipush 60, 2) := by decide +kernel
theorem d_Z_make_116 : decode b_Z_make 116 = .ok (.iload_n 1, 1) := by decide +kernel
theorem d_Z_make_117 : decode b_Z_make 117 = .ok (.imul, 1) := by decide +kernel
theorem d_Z_make_118 : decode b_Z_make 118 = .ok (.iload_n 3, 1) := by decide +kernel
theorem d_Z_make_119 : decode b_Z_make 119 = .ok (.iadd, 1) := by decide +kernel
theorem d_Z_make_120 : decode b_Z_make 120 = .ok (.invokevirtual 93, 3) := by decide +kernel
theorem d_Z_make_123 : decode b_Z_make 123 = .ok (.iinc 3 1, 3) := by decide +kernel
theorem d_Z_make_126 : decode b_Z_make 126 = .ok (.goto (-24), 3) := by decide +kernel
theorem d_Z_make_129 : decode b_Z_make 129 = .ok (.aload_n 0, 1) := by decide +kernel
theorem d_Z_make_130 : decode b_Z_make 130 = .ok (.iload_n 1, 1) := by decide +kernel
theorem d_Z_make_131 : decode b_Z_make 131 = .ok (.bipush 10, 2) := by decide +kernel
theorem d_Z_make_133 : decode b_Z_make 133 = .ok (.invokevirtual 81, 3) := by decide +kernel
theorem d_Z_make_136 : decode b_Z_make 136 = .ok (.aload_n 0, 1) := by decide +kernel
theorem d_Z_make_137 : decode b_Z_make 137 = .ok (.getfield 28, 3) := by decide +kernel
theorem d_Z_make_140 : decode b_Z_make 140 = .ok (.iload_n 1, 1) := by decide +kernel
theorem d_Z_make_141 : decode b_Z_make 141 = .ok (.aload_n 0, 1) := by decide +kernel
theorem d_Z_make_142 : decode b_Z_make 142 = .ok (.getfield 78, 3) := by decide +kernel
theorem d_Z_make_145 : decode b_Z_make 145 = .ok (.iastore, 1) := by decide +kernel
theorem d_Z_make_146 : decode b_Z_make 146 = .ok (.aload_n 0, 1) := by decide +kernel
theorem d_Z_make_147 : decode b_Z_make 147 = .ok (.getfield 22, 3) := by decide +kernel
theorem d_Z_make_150 : decode b_Z_make 150 = .ok (.iload_n 1, 1) := by decide +kernel
theorem d_Z_make_151 : decode b_Z_make 151 = .ok (.iconst 1, 1) := by decide +kernel
theorem d_Z_make_152 : decode b_Z_make 152 = .ok (.iastore, 1) := by decide +kernel
theorem d_Z_make_153 : decode b_Z_make 153 = .ok (.aload_n 0, 1) := by decide +kernel
theorem d_Z_make_154 : decode b_Z_make 154 = .ok (.getfield 25, 3) := by decide +kernel
theorem d_Z_make_157 : decode b_Z_make 157 = .ok (.iload_n 1, 1) := by decide +kernel
theorem d_Z_make_158 : decode b_Z_make 158 = .ok (.aload_n 0, 1) := by decide +kernel
theorem d_Z_make_159 : decode b_Z_make 159 = .ok (.getfield 96, 3) := by decide +kernel
theorem d_Z_make_162 : decode b_Z_make 162 = .ok (.iastore, 1) := by decide +kernel
theorem d_Z_make_163 : decode b_Z_make 163 = .ok (.aload_n 0, 1) := by decide +kernel
theorem d_Z_make_164 : decode b_Z_make 164 = .ok (.getfield 78, 3) := by decide +kernel
theorem d_Z_make_167 : decode b_Z_make 167 = .ok (.ireturn, 1) := by decide +kernel
theorem d_Z_bytesOf_0 : decode b_Z_bytesOf 0 = .ok (.iload_n 0, 1) := by decide +kernel
theorem d_Z_bytesOf_1 : decode b_Z_bytesOf 1 = .ok (.ifCond .ne 23, 3) := by decide +kernel
theorem d_Z_bytesOf_4 : decode b_Z_bytesOf 4 = .ok (.iload_n 1, 1) := by decide +kernel
theorem d_Z_bytesOf_5 : decode b_Z_bytesOf 5 = .ok (.bipush (-128), 2) := by decide +kernel
theorem d_Z_bytesOf_7 : decode b_Z_bytesOf 7 = .ok (.bipush 127, 2) := by decide +kernel
theorem d_Z_bytesOf_9 : decode b_Z_bytesOf 9 = .ok (.invokestatic 63, 3) := by decide +kernel
theorem d_Z_bytesOf_12 : decode b_Z_bytesOf 12 = .ok (.ifCond .eq 7, 3) := by decide +kernel
theorem d_Z_bytesOf_15 : decode b_Z_bytesOf 15 = .ok (.iconst 4, 1) := by decide +kernel
theorem d_Z_bytesOf_16 : decode b_Z_bytesOf 16 = .ok (.goto 30, 3) := by decide +kernel
theorem d_Z_bytesOf_19 : decode b_Z_bytesOf 19 = .ok (.bipush 7, 2) := by decide +kernel
theorem d_Z_bytesOf_21 : decode b_Z_bytesOf 21 = .ok (.goto 25, 3) := by decide +kernel
theorem d_Z_bytesOf_24 : decode b_Z_bytesOf 24 = .ok (.iload_n 0, 1) := by decide +kernel
theorem d_Z_bytesOf_25 : decode b_Z_bytesOf 25 = .ok (.bipush 6, 2) := by decide +kernel
theorem d_Z_bytesOf_27 : decode b_Z_bytesOf 27 = .ok (.if_icmp .ne 7, 3) := by decide +kernel
theorem d_Z_bytesOf_30 : decode b_Z_bytesOf 30 = .ok (.iconst 5, 1) := by decide +kernel
theorem d_Z_bytesOf_31 : decode b_Z_bytesOf 31 = .ok (.goto 15, 3) := by decide +kernel
theorem d_Z_bytesOf_34 : decode b_Z_bytesOf 34 = .ok (.iload_n 0, 1) := by decide +kernel
theorem d_Z_bytesOf_35 : decode b_Z_bytesOf 35 = .ok (.bipush 6, 2) := by decide +kernel
theorem d_Z_bytesOf_37 : decode b_Z_bytesOf 37 = .ok (.if_icmp .ge 8, 3) := by decide +kernel
theorem d_Z_bytesOf_40 : decode b_Z_bytesOf 40 = .ok (.bipush 7, 2) := by decide +kernel
theorem d_Z_bytesOf_42 : decode b_Z_bytesOf 42 = .ok (.goto 4, 3) := by decide +kernel
theorem d_Z_bytesOf_45 : decode b_Z_bytesOf 45 = .ok (.iconst 4, 1) := by decide +kernel
theorem d_Z_bytesOf_46 : decode b_Z_bytesOf 46 = .ok (.ireturn, 1) := by decide +kernel
theorem d_Z_putInstruction_0 : decode b_Z_putInstruction 0 = .ok (.aload_n 0, 1) := by decide +kernel
theorem d_Z_putInstruction_1 : decode b_Z_putInstruction 1 = .ok (.getfield 13, 3) := by decide +kernel
theorem d_Z_putInstruction_4 : decode b_Z_putInstruction 4 = .ok (.iload_n 2, 1) := by decide +kernel
theorem d_Z_putInstruction_5 : decode b_Z_putInstruction 5 = .ok (.iaload, 1) := by decide +kernel
theorem d_Z_putInstruction_6 : decode b_Z_putInstruction 6 = .ok (.istore_n 3, 1) := by decide +kernel
theorem d_Z_putInstruction_7 : decode b_Z_putInstruction 7 = .ok (.iload_n 3, 1) := by decide +kernel
theorem d_Z_putInstruction_8 : decode b_Z_putInstruction 8 = .ok (.ifCond .ne 35, 3) := by decide +kernel
theorem d_Z_putInstruction_11 : decode b_Z_putInstruction 11 = .ok (.aload_n 0, 1) := by decide +kernel
theorem d_Z_putInstruction_12 : decode b_Z_putInstruction 12 = .ok (.getfield 19, 3) := by decide +kernel
theorem d_Z_putInstruction_15 : decode b_Z_putInstruction 15 = .ok (.iload_n 2, 1) := by decide +kernel
theorem d_Z_putInstruction_16 : decode b_Z_putInstruction 16 = .ok (.iaload, 1) := by decide +kernel
theorem d_Z_putInstruction_17 : decode b_Z_putInstruction 17 = .ok (.bipush (-128), 2) := by decide +kernel
theorem d_Z_putInstruction_19 : decode b_Z_putInstruction 19 = .ok (.bipush 127, 2) := by decide +kernel
theorem d_Z_putInstruction_21 : decode b_Z_putInstruction 21 = .ok (.invokestatic 63, 3) := by decide +kernel
theorem d_Z_putInstruction_24 : decode b_Z_putInstruction 24 = .ok (.ifCond .eq 19, 3) := by decide +kernel
theorem d_Z_putInstruction_27 : decode b_Z_putInstruction 27 = .ok (.aload_n 0, 1) := by decide +kernel
theorem d_Z_putInstruction_28 : decode b_Z_putInstruction 28 = .ok (.iload_n 1, 1) := by decide +kernel
theorem d_Z_putInstruction_29 : decode b_Z_putInstruction 29 = .ok (.bipush 16, 2) := by decide +kernel
theorem d_Z_putInstruction_31 : decode b_Z_putInstruction 31 = .ok (.aload_n 0, 1) := by decide +kernel
theorem d_Z_putInstruction_32 : decode b_Z_putInstruction 32 = .ok (.getfield 19, 3) := by decide +kernel
theorem d_Z_putInstruction_35 : decode b_Z_putInstruction 35 = .ok (.iload_n 2, 1) := by decide +kernel
theorem d_Z_putInstruction_36 : decode b_Z_putInstruction 36 = .ok (.iaload, 1) := by decide +kernel
theorem d_Z_putInstruction_37 : decode b_Z_putInstruction 37 = .ok (.invokevirtual 85, 3) := by decide +kernel
theorem d_Z_putInstruction_40 : decode b_Z_putInstruction 40 = .ok (.goto 164, 3) := by decide +kernel
theorem d_Z_putInstruction_43 : decode b_Z_putInstruction 43 = .ok (.iload_n 3, 1) := by decide +kernel
theorem d_Z_putInstruction_44 : decode b_Z_putInstruction 44 = .ok (.ifCond .ne 41, 3) := by decide +kernel
theorem d_Z_putInstruction_47 : decode b_Z_putInstruction 47 = .ok (.aload_n 0, 1) := by decide +kernel
theorem d_Z_putInstruction_48 : decode b_Z_putInstruction 48 = .ok (.iload_n 1, 1) := by decide +kernel
theorem d_Z_putInstruction_49 : decode b_Z_putInstruction 49 = .ok (.iconst 3, 1) := by decide +kernel
theorem d_Z_putInstruction_50 : decode b_Z_putInstruction 50 = .ok (.invokevirtual 81, 3) := by decide +kernel
theorem d_Z_putInstruction_53 : decode b_Z_putInstruction 53 = .ok (.bipush 24, 2) := by decide +kernel
theorem d_Z_putInstruction_55 : decode b_Z_putInstruction 55 = .ok (.istore 4, 2) := by decide +kernel
theorem d_Z_putInstruction_57 : decode b_Z_putInstruction 57 = .ok (.iload 4, 2) := by decide +kernel
theorem d_Z_putInstruction_59 : decode b_Z_putInstruction 59 = .ok (.ifCond .lt 23, 3) := by decide +kernel
theorem d_Z_putInstruction_62 : decode b_Z_putInstruction 62 = .ok (.aload_n 0, 1) := by decide +kernel
theorem d_Z_putInstruction_63 : decode b_Z_putInstruction 63 = .ok (.iload_n 1, 1) := by decide +kernel
theorem d_Z_putInstruction_64 : decode b_Z_putInstruction 64 = .ok (.aload_n 0, 1) := by decide +kernel
theorem d_Z_putInstruction_65 : decode b_Z_putInstruction 65 = .ok (.getfield 19, 3) := by decide +kernel
theorem d_Z_putInstruction_68 : decode b_Z_putInstruction 68 = .ok (.iload_n 2, 1) := by decide +kernel
theorem d_Z_putInstruction_69 : decode b_Z_putInstruction 69 = .ok (.iaload, 1) := by decide +kernel
theorem d_Z_putInstruction_70 : decode b_Z_putInstruction 70 = .ok (.iload 4, 2) := by decide +kernel
theorem d_Z_putInstruction_72 : decode b_Z_putInstruction 72 = .ok (.ishr, 1) := by decide +kernel
theorem d_Z_putInstruction_73 : decode b_Z_putInstruction 73 = .ok (.invokevirtual 81, 3) := by decide +kernel
theorem d_Z_putInstruction_76 : decode b_Z_putInstruction 76 = .ok (.iinc 4 (-8), 3) := by decide +kernel
theorem d_Z_putInstruction_79 : decode b_Z_putInstruction 79 = .ok (.goto (-22), 3) := by decide +kernel
theorem d_Z_putInstruction_82 : decode b_Z_putInstruction 82 = .ok (.goto 122, 3) := by decide +kernel
theorem d_Z_putInstruction_85 : decode b_Z_putInstruction 85 = .ok (.iload_n 3, 1) := by decide +kernel
theorem d_Z_putInstruction_86 : decode b_Z_putInstruction 86 = .ok (.bipush 6, 2) := by decide +kernel
theorem d_Z_putInstruction_88 : decode b_Z_putInstruction 88 = .ok (.if_icmp .ne 72, 3) := by decide +kernel
theorem d_Z_putInstruction_91 : decode b_Z_putInstruction 91 = .ok (.aload_n 0, 1) := by decide +kernel
theorem d_Z_putInstruction_92 : decode b_Z_putInstruction 92 = .ok (.getfield 34, 3) := by decide +kernel
theorem d_Z_putInstruction_95 : decode b_Z_putInstruction 95 = .ok (.aload_n 0, 1) := by decide +kernel
theorem d_Z_putInstruction_96 : decode b_Z_putInstruction 96 = .ok (.getfield 19, 3) := by decide +kernel
theorem d_Z_putInstruction_99 : decode b_Z_putInstruction 99 = .ok (.iload_n 2, 1) := by decide +kernel
theorem d_Z_putInstruction_100 : decode b_Z_putInstruction 100 = .ok (.iaload, 1) := by decide +kernel
theorem d_Z_putInstruction_101 : decode b_Z_putInstruction 101 = .ok (.aload_n 0, 1) := by decide +kernel
theorem d_Z_putInstruction_102 : decode b_Z_putInstruction 102 = .ok (.getfield 7, 3) := by decide +kernel
theorem d_Z_putInstruction_105 : decode b_Z_putInstruction 105 = .ok (.iload_n 1, 1) := by decide +kernel
theorem d_Z_putInstruction_106 : decode b_Z_putInstruction 106 = .ok (.iaload, 1) := by decide +kernel
theorem d_Z_putInstruction_107 : decode b_Z_putInstruction 107 = .ok (.if_icmp .ge 12, 3) := by decide +kernel
theorem d_Z_putInstruction_110 : decode b_Z_putInstruction 110 = .ok (.aload_n 0, 1) := by decide +kernel
theorem d_Z_putInstruction_111 : decode b_Z_putInstruction 111 = .ok (.getfield 19, 3) := by decide +kernel
theorem d_Z_putInstruction_114 : decode b_Z_putInstruction 114 = .ok (.iload_n 2, 1) := by decide +kernel
theorem d_Z_putInstruction_115 : decode b_Z_putInstruction 115 = .ok (.iaload, 1) := by decide +kernel
theorem d_Z_putInstruction_116 : decode b_Z_putInstruction 116 = .ok (.goto 9, 3) := by decide +kernel
theorem d_Z_putInstruction_119 : decode b_Z_putInstruction 119 = .ok (.aload_n 0, 1) := by decide +kernel
theorem d_Z_putInstruction_120 : decode b_Z_putInstruction 120 = .ok (.getfield 7, 3) := by decide +kernel
theorem d_Z_putInstruction_123 : decode b_Z_putInstruction 123 = .ok (.iload_n 1, 1) := by decide +kernel
theorem d_Z_putInstruction_124 : decode b_Z_putInstruction 124 = .ok (.iaload, 1) := by decide +kernel
theorem d_Z_putInstruction_125 : decode b_Z_putInstruction 125 = .ok (.iaload, 1) := by decide +kernel
theorem d_Z_putInstruction_126 : decode b_Z_putInstruction 126 = .ok (.istore 4, 2) := by decide +kernel
theorem d_Z_putInstruction_128 : decode b_Z_putInstruction 128 = .ok (.aload_n 0, 1) := by decide +kernel
theorem d_Z_putInstruction_129 : decode b_Z_putInstruction 129 = .ok (.iload_n 1, 1) := by decide +kernel
theorem d_Z_putInstruction_130 : decode b_Z_putInstruction 130 = .ok (.iconst 1, 1) := by decide +kernel
theorem d_Z_putInstruction_131 : decode b_Z_putInstruction 131 = .ok (.aload_n 0, 1) := by decide +kernel
theorem d_Z_putInstruction_132 : decode b_Z_putInstruction 132 = .ok (.getfield 16, 3) := by decide +kernel
theorem d_Z_putInstruction_135 : decode b_Z_putInstruction 135 = .ok (.iload_n 2, 1) := by decide +kernel
theorem d_Z_putInstruction_136 : decode b_Z_putInstruction 136 = .ok (.iaload, 1) := by decide +kernel
theorem d_Z_putInstruction_137 : decode b_Z_putInstruction 137 = .ok (.invokevirtual 85, 3) := by decide +kernel
theorem d_Z_putInstruction_140 : decode b_Z_putInstruction 140 = .ok (.aload_n 0, 1) := by decide +kernel
theorem d_Z_putInstruction_141 : decode b_Z_putInstruction 141 = .ok (.iload_n 1, 1) := by decide +kernel
theorem d_Z_putInstruction_142 : decode b_Z_putInstruction 142 = .ok (.bipush 9, 2) := by decide +kernel
theorem d_Z_putInstruction_144 : decode b_Z_putInstruction 144 = .ok (.iload 4, 2) := by decide +kernel
theorem d_Z_putInstruction_146 : decode b_Z_putInstruction 146 = .ok (.bipush 8, 2) := by decide +kernel
theorem d_Z_putInstruction_148 : decode b_Z_putInstruction 148 = .ok (.ishr, 1) := by decide +kernel
theorem d_Z_putInstruction_149 : decode b_Z_putInstruction 149 = .ok (.invokevirtual 85, 3) := by decide +kernel
theorem d_Z_putInstruction_152 : decode b_Z_putInstruction 152 = .ok (.aload_n 0, 1) := by decide +kernel
theorem d_Z_putInstruction_153 : decode b_Z_putInstruction 153 = .ok (.iload_n 1, 1) := by decide +kernel
theorem d_Z_putInstruction_154 : decode b_Z_putInstruction 154 = .ok (.iload 4, 2) := by decide +kernel
theorem d_Z_putInstruction_156 : decode b_Z_putInstruction 156 = .ok (.invokevirtual 81, 3) := by decide +kernel
theorem d_Z_putInstruction_159 : decode b_Z_putInstruction 159 = .ok (.return_, 1) := by decide +kernel
theorem d_Z_putInstruction_160 : decode b_Z_putInstruction 160 = .ok (.iload_n 3, 1) := by decide +kernel
theorem d_Z_putInstruction_161 : decode b_Z_putInstruction 161 = .ok (.bipush 6, 2) := by decide +kernel
theorem d_Z_putInstruction_163 : decode b_Z_putInstruction 163 = .ok (.if_icmp .ge 15, 3) := by decide +kernel
theorem d_Z_putInstruction_166 : decode b_Z_putInstruction 166 = .ok (.aload_n 0, 1) := by decide +kernel
theorem d_Z_putInstruction_167 : decode b_Z_putInstruction 167 = .ok (.iload_n 1, 1) := by decide +kernel
theorem d_Z_putInstruction_168 : decode b_Z_putInstruction 168 = .ok (.iconst 1, 1) := by decide +kernel
theorem d_Z_putInstruction_169 : decode b_Z_putInstruction 169 = .ok (.aload_n 0, 1) := by decide +kernel
theorem d_Z_putInstruction_170 : decode b_Z_putInstruction 170 = .ok (.getfield 16, 3) := by decide +kernel
theorem d_Z_putInstruction_173 : decode b_Z_putInstruction 173 = .ok (.iload_n 2, 1) := by decide +kernel
theorem d_Z_putInstruction_174 : decode b_Z_putInstruction 174 = .ok (.iaload, 1) := by decide +kernel
theorem d_Z_putInstruction_175 : decode b_Z_putInstruction 175 = .ok (.invokevirtual 85, 3) := by decide +kernel
theorem d_Z_putInstruction_178 : decode b_Z_putInstruction 178 = .ok (.aload_n 0, 1) := by decide +kernel
theorem d_Z_putInstruction_179 : decode b_Z_putInstruction 179 = .ok (.iload_n 1, 1) := by decide +kernel
theorem d_Z_putInstruction_180 : decode b_Z_putInstruction 180 = .ok (.iconst 1, 1) := by decide +kernel
theorem d_Z_putInstruction_181 : decode b_Z_putInstruction 181 = .ok (.aload_n 0, 1) := by decide +kernel
theorem d_Z_putInstruction_182 : decode b_Z_putInstruction 182 = .ok (.getfield 19, 3) := by decide +kernel
theorem d_Z_putInstruction_185 : decode b_Z_putInstruction 185 = .ok (.iload_n 2, 1) := by decide +kernel
theorem d_Z_putInstruction_186 : decode b_Z_putInstruction 186 = .ok (.iaload, 1) := by decide +kernel
theorem d_Z_putInstruction_187 : decode b_Z_putInstruction 187 = .ok (.invokevirtual 85, 3) := by decide +kernel
theorem d_Z_putInstruction_190 : decode b_Z_putInstruction 190 = .ok (.iload_n 3, 1) := by decide +kernel
theorem d_Z_putInstruction_191 : decode b_Z_putInstruction 191 = .ok (.bipush 6, 2) := by decide +kernel
theorem d_Z_putInstruction_193 : decode b_Z_putInstruction 193 = .ok (.if_icmp .ge 11, 3) := by decide +kernel
theorem d_Z_putInstruction_196 : decode b_Z_putInstruction 196 = .ok (.aload_n 0, 1) := by decide +kernel
theorem d_Z_putInstruction_197 : decode b_Z_putInstruction 197 = .ok (.iload_n 1, 1) := by decide +kernel
theorem d_Z_putInstruction_198 : decode b_Z_putInstruction 198 = .ok (.iload_n 3, 1) := by decide +kernel
theorem d_Z_putInstruction_199 : decode b_Z_putInstruction 199 = .ok (.iconst 3, 1) := by decide +kernel
theorem d_Z_putInstruction_200 : decode b_Z_putInstruction 200 = .ok (.iadd, 1) := by decide +kernel
theorem d_Z_putInstruction_201 : decode b_Z_putInstruction 201 = .ok (.invokevirtual 81, 3) := by decide +kernel
theorem d_Z_putInstruction_204 : decode b_Z_putInstruction 204 = .ok (.aload_n 0, 1) := by decide +kernel
theorem d_Z_putInstruction_205 : decode b_Z_putInstruction 205 = .ok (.iload_n 1, 1) := by decide +kernel
theorem d_Z_putInstruction_206 : decode b_Z_putInstruction 206 = .ok (.iconst 2, 1) := by decide +kernel
theorem d_Z_putInstruction_207 : decode b_Z_putInstruction 207 = .ok (.aload_n 0, 1) := by decide +kernel
theorem d_Z_putInstruction_208 : decode b_Z_putInstruction 208 = .ok (.getfield 16, 3) := by decide +kernel
theorem d_Z_putInstruction_211 : decode b_Z_putInstruction 211 = .ok (.iload_n 2, 1) := by decide +kernel
theorem d_Z_putInstruction_212 : decode b_Z_putInstruction 212 = .ok (.iaload, 1) := by decide +kernel
theorem d_Z_putInstruction_213 : decode b_Z_putInstruction 213 = .ok (.invokevirtual 85, 3) := by decide +kernel
theorem d_Z_putInstruction_216 : decode b_Z_putInstruction 216 = .ok (.return_, 1) := by decide +kernel
theorem d_Z_putTwo_0 : decode b_Z_putTwo 0 = .ok (.aload_n 0, 1) := by decide +kernel
theorem d_Z_putTwo_1 : decode b_Z_putTwo 1 = .ok (.iload_n 1, 1) := by decide +kernel
theorem d_Z_putTwo_2 : decode b_Z_putTwo 2 = .ok (.iload_n 2, 1) := by decide +kernel
theorem d_Z_putTwo_3 : decode b_Z_putTwo 3 = .ok (.invokevirtual 81, 3) := by decide +kernel
theorem d_Z_putTwo_6 : decode b_Z_putTwo 6 = .ok (.aload_n 0, 1) := by decide +kernel
theorem d_Z_putTwo_7 : decode b_Z_putTwo 7 = .ok (.iload_n 1, 1) := by decide +kernel
theorem d_Z_putTwo_8 : decode b_Z_putTwo 8 = .ok (.iload_n 3, 1) := by decide +kernel
theorem d_Z_putTwo_9 : decode b_Z_putTwo 9 = .ok (.invokevirtual 81, 3) := by decide +kernel
theorem d_Z_putTwo_12 : decode b_Z_putTwo 12 = .ok (.return_, 1) := by decide +kernel
theorem d_Z_put_0 : decode b_Z_put 0 = .ok (.aload_n 0, 1) := by decide +kernel
theorem d_Z_put_1 : decode b_Z_put 1 = .ok (.getfield 31, 3) := by decide +kernel
theorem d_Z_put_4 : decode b_Z_put 4 = .ok (.sipush 300, 3) := by decide +kernel
theorem d_Z_put_7 : decode b_Z_put 7 = .ok (.iload_n 1, 1) := by decide +kernel
theorem d_Z_put_8 : decode b_Z_put 8 = .ok (.imul, 1) := by decide +kernel
theorem d_Z_put_9 : decode b_Z_put 9 = .ok (.aload_n 0, 1) := by decide +kernel
theorem d_Z_put_10 : decode b_Z_put 10 = .ok (.getfield 78, 3) := by decide +kernel
theorem d_Z_put_13 : decode b_Z_put 13 = .ok (.iadd, 1) := by decide +kernel
theorem d_Z_put_14 : decode b_Z_put 14 = .ok (.iload_n 2, 1) := by decide +kernel
theorem d_Z_put_15 : decode b_Z_put 15 = .ok (.sipush 255, 3) := by decide +kernel
theorem d_Z_put_18 : decode b_Z_put 18 = .ok (.iand, 1) := by decide +kernel
theorem d_Z_put_19 : decode b_Z_put 19 = .ok (.iastore, 1) := by decide +kernel
theorem d_Z_put_20 : decode b_Z_put 20 = .ok (.aload_n 0, 1) := by decide +kernel
theorem d_Z_put_21 : decode b_Z_put 21 = .ok (.dup, 1) := by decide +kernel
theorem d_Z_put_22 : decode b_Z_put 22 = .ok (.getfield 78, 3) := by decide +kernel
theorem d_Z_put_25 : decode b_Z_put 25 = .ok (.iconst 1, 1) := by decide +kernel
theorem d_Z_put_26 : decode b_Z_put 26 = .ok (.iadd, 1) := by decide +kernel
theorem d_Z_put_27 : decode b_Z_put 27 = .ok (.putfield 78, 3) := by decide +kernel
theorem d_Z_put_30 : decode b_Z_put 30 = .ok (.return_, 1) := by decide +kernel
theorem d_Z_byteAt_0 : decode b_Z_byteAt 0 = .ok (.aload_n 0, 1) := by decide +kernel
theorem d_Z_byteAt_1 : decode b_Z_byteAt 1 = .ok (.iload_n 1, 1) := by decide +kernel
theorem d_Z_byteAt_2 : decode b_Z_byteAt 2 = .ok (.invokevirtual 71, 3) := by decide +kernel
theorem d_Z_byteAt_5 : decode b_Z_byteAt 5 = .ok (.ifCond .ne 5, 3) := by decide +kernel
theorem d_Z_byteAt_8 : decode b_Z_byteAt 8 = .ok (.iconst 0, 1) := by decide +kernel
theorem d_Z_byteAt_9 : decode b_Z_byteAt 9 = .ok (.ireturn, 1) := by decide +kernel
theorem d_Z_byteAt_10 : decode b_Z_byteAt 10 = .ok (.aload_n 0, 1) := by decide +kernel
theorem d_Z_byteAt_11 : decode b_Z_byteAt 11 = .ok (.getfield 22, 3) := by decide +kernel
theorem d_Z_byteAt_14 : decode b_Z_byteAt 14 = .ok (.iload_n 1, 1) := by decide +kernel
theorem d_Z_byteAt_15 : decode b_Z_byteAt 15 = .ok (.iaload, 1) := by decide +kernel
theorem d_Z_byteAt_16 : decode b_Z_byteAt 16 = .ok (.ifCond .ne 9, 3) := by decide +kernel
theorem d_Z_byteAt_19 : decode b_Z_byteAt 19 = .ok (.aload_n 0, 1) := by decide +kernel
theorem d_Z_byteAt_20 : decode b_Z_byteAt 20 = .ok (.iconst 2, 1) := by decide +kernel
theorem d_Z_byteAt_21 : decode b_Z_byteAt 21 = .ok (.invokevirtual 67, 3) := by decide +kernel
theorem d_Z_byteAt_24 : decode b_Z_byteAt 24 = .ok (.ireturn, 1) := by decide +kernel
theorem d_Z_byteAt_25 : decode b_Z_byteAt 25 = .ok (.iload_n 2, 1) := by decide +kernel
theorem d_Z_byteAt_26 : decode b_Z_byteAt 26 = .ok (.iconst 0, 1) := by decide +kernel
theorem d_Z_byteAt_27 : decode b_Z_byteAt 27 = .ok (.aload_n 0, 1) := by decide +kernel
theorem d_Z_byteAt_28 : decode b_Z_byteAt 28 = .ok (.getfield 28, 3) := by decide +kernel
theorem d_Z_byteAt_31 : decode b_Z_byteAt 31 = .ok (.iload_n 1, 1) := by decide +kernel
theorem d_Z_byteAt_32 : decode b_Z_byteAt 32 = .ok (.iaload, 1) := by decide +kernel
theorem d_Z_byteAt_33 : decode b_Z_byteAt 33 = .ok (.iconst 1, 1) := by decide +kernel
theorem d_Z_byteAt_34 : decode b_Z_byteAt 34 = .ok (.isub, 1) := by decide +kernel
theorem d_Z_byteAt_35 : decode b_Z_byteAt 35 = .ok (.invokestatic 63, 3) := by decide +kernel
theorem d_Z_byteAt_38 : decode b_Z_byteAt 38 = .ok (.ifCond .eq 18, 3) := by decide +kernel
theorem d_Z_byteAt_41 : decode b_Z_byteAt 41 = .ok (.aload_n 0, 1) := by decide +kernel
theorem d_Z_byteAt_42 : decode b_Z_byteAt 42 = .ok (.getfield 31, 3) := by decide +kernel
theorem d_Z_byteAt_45 : decode b_Z_byteAt 45 = .ok (.sipush 300, 3) := by decide +kernel
theorem d_Z_byteAt_48 : decode b_Z_byteAt 48 = .ok (.iload_n 1, 1) := by decide +kernel
theorem d_Z_byteAt_49 : decode b_Z_byteAt 49 = .ok (.imul, 1) := by decide +kernel
theorem d_Z_byteAt_50 : decode b_Z_byteAt 50 = .ok (.iload_n 2, 1) := by decide +kernel
theorem d_Z_byteAt_51 : decode b_Z_byteAt 51 = .ok (.iadd, 1) := by decide +kernel
theorem d_Z_byteAt_52 : decode b_Z_byteAt 52 = .ok (.iaload, 1) := by decide +kernel
theorem d_Z_byteAt_53 : decode b_Z_byteAt 53 = .ok (.goto 8, 3) := by decide +kernel
theorem d_Z_byteAt_56 : decode b_Z_byteAt 56 = .ok (.aload_n 0, 1) := by decide +kernel
theorem d_Z_byteAt_57 : decode b_Z_byteAt 57 = .ok (.iconst 3, 1) := by decide +kernel
theorem d_Z_byteAt_58 : decode b_Z_byteAt 58 = .ok (.invokevirtual 67, 3) := by decide +kernel
theorem d_Z_byteAt_61 : decode b_Z_byteAt 61 = .ok (.ireturn, 1) := by decide +kernel
theorem d_Z_alter_0 : decode b_Z_alter 0 = .ok (.aload_n 0, 1) := by decide +kernel
theorem d_Z_alter_1 : decode b_Z_alter 1 = .ok (.iload_n 1, 1) := by decide +kernel
theorem d_Z_alter_2 : decode b_Z_alter 2 = .ok (.invokevirtual 71, 3) := by decide +kernel
theorem d_Z_alter_5 : decode b_Z_alter 5 = .ok (.ifCond .ne 5, 3) := by decide +kernel
theorem d_Z_alter_8 : decode b_Z_alter 8 = .ok (.iconst 0, 1) := by decide +kernel
theorem d_Z_alter_9 : decode b_Z_alter 9 = .ok (.ireturn, 1) := by decide +kernel
theorem d_Z_alter_10 : decode b_Z_alter 10 = .ok (.aload_n 0, 1) := by decide +kernel
theorem d_Z_alter_11 : decode b_Z_alter 11 = .ok (.getfield 22, 3) := by decide +kernel
theorem d_Z_alter_14 : decode b_Z_alter 14 = .ok (.iload_n 1, 1) := by decide +kernel
theorem d_Z_alter_15 : decode b_Z_alter 15 = .ok (.iaload, 1) := by decide +kernel
theorem d_Z_alter_16 : decode b_Z_alter 16 = .ok (.iconst 1, 1) := by decide +kernel
theorem d_Z_alter_17 : decode b_Z_alter 17 = .ok (.if_icmp .eq 9, 3) := by decide +kernel
theorem d_Z_alter_20 : decode b_Z_alter 20 = .ok (.aload_n 0, 1) := by decide +kernel
theorem d_Z_alter_21 : decode b_Z_alter 21 = .ok (.iconst 2, 1) := by decide +kernel
theorem d_Z_alter_22 : decode b_Z_alter 22 = .ok (.invokevirtual 67, 3) := by decide +kernel
theorem d_Z_alter_25 : decode b_Z_alter 25 = .ok (.ireturn, 1) := by decide +kernel
theorem d_Z_alter_26 : decode b_Z_alter 26 = .ok (.iload_n 2, 1) := by decide +kernel
theorem d_Z_alter_27 : decode b_Z_alter 27 = .ok (.iconst 0, 1) := by decide +kernel
theorem d_Z_alter_28 : decode b_Z_alter 28 = .ok (.aload_n 0, 1) := by decide +kernel
theorem d_Z_alter_29 : decode b_Z_alter 29 = .ok (.getfield 28, 3) := by decide +kernel
theorem d_Z_alter_32 : decode b_Z_alter 32 = .ok (.iload_n 1, 1) := by decide +kernel
theorem d_Z_alter_33 : decode b_Z_alter 33 = .ok (.iaload, 1) := by decide +kernel
theorem d_Z_alter_34 : decode b_Z_alter 34 = .ok (.iconst 1, 1) := by decide +kernel
theorem d_Z_alter_35 : decode b_Z_alter 35 = .ok (.isub, 1) := by decide +kernel
theorem d_Z_alter_36 : decode b_Z_alter 36 = .ok (.invokestatic 63, 3) := by decide +kernel
theorem d_Z_alter_39 : decode b_Z_alter 39 = .ok (.ifCond .eq 14, 3) := by decide +kernel
theorem d_Z_alter_42 : decode b_Z_alter 42 = .ok (.iload_n 3, 1) := by decide +kernel
theorem d_Z_alter_43 : decode b_Z_alter 43 = .ok (.iconst 0, 1) := by decide +kernel
theorem d_Z_alter_44 : decode b_Z_alter 44 = .ok (.sipush 255, 3) := by decide +kernel
theorem d_Z_alter_47 : decode b_Z_alter 47 = .ok (.invokestatic 63, 3) := by decide +kernel
theorem d_Z_alter_50 : decode b_Z_alter 50 = .ok (.ifCond .ne 9, 3) := by decide +kernel
theorem d_Z_alter_53 : decode b_Z_alter 53 = .ok (.aload_n 0, 1) := by decide +kernel
theorem d_Z_alter_54 : decode b_Z_alter 54 = .ok (.iconst 3, 1) := by decide +kernel
theorem d_Z_alter_55 : decode b_Z_alter 55 = .ok (.invokevirtual 67, 3) := by decide +kernel
theorem d_Z_alter_58 : decode b_Z_alter 58 = .ok (.ireturn, 1) := by decide +kernel
theorem d_Z_alter_59 : decode b_Z_alter 59 = .ok (.aload_n 0, 1) := by decide +kernel
theorem d_Z_alter_60 : decode b_Z_alter 60 = .ok (.getfield 31, 3) := by decide +kernel
theorem d_Z_alter_63 : decode b_Z_alter 63 = .ok (.sipush 300, 3) := by decide +kernel
theorem d_Z_alter_66 : decode b_Z_alter 66 = .ok (.iload_n 1, 1) := by decide +kernel
theorem d_Z_alter_67 : decode b_Z_alter 67 = .ok (.imul, 1) := by decide +kernel
theorem d_Z_alter_68 : decode b_Z_alter 68 = .ok (.iload_n 2, 1) := by decide +kernel
theorem d_Z_alter_69 : decode b_Z_alter 69 = .ok (.iadd, 1) := by decide +kernel
theorem d_Z_alter_70 : decode b_Z_alter 70 = .ok (.iaload, 1) := by decide +kernel
theorem d_Z_alter_71 : decode b_Z_alter 71 = .ok (.istore 4, 2) := by decide +kernel
theorem d_Z_alter_73 : decode b_Z_alter 73 = .ok (.aload_n 0, 1) := by decide +kernel
theorem d_Z_alter_74 : decode b_Z_alter 74 = .ok (.getfield 31, 3) := by decide +kernel
theorem d_Z_alter_77 : decode b_Z_alter 77 = .ok (.sipush 300, 3) := by decide +kernel
theorem d_Z_alter_80 : decode b_Z_alter 80 = .ok (.iload_n 1, 1) := by decide +kernel
theorem d_Z_alter_81 : decode b_Z_alter 81 = .ok (.imul, 1) := by decide +kernel
theorem d_Z_alter_82 : decode b_Z_alter 82 = .ok (.iload_n 2, 1) := by decide +kernel
theorem d_Z_alter_83 : decode b_Z_alter 83 = .ok (.iadd, 1) := by decide +kernel
theorem d_Z_alter_84 : decode b_Z_alter 84 = .ok (.iload_n 3, 1) := by decide +kernel
theorem d_Z_alter_85 : decode b_Z_alter 85 = .ok (.iastore, 1) := by decide +kernel
theorem d_Z_alter_86 : decode b_Z_alter 86 = .ok (.iload 4, 2) := by decide +kernel
theorem d_Z_alter_88 : decode b_Z_alter 88 = .ok (.ireturn, 1) := by decide +kernel
theorem d_Z_check_0 : decode b_Z_check 0 = .ok (.aload_n 0, 1) := by decide +kernel
theorem d_Z_check_1 : decode b_Z_check 1 = .ok (.iload_n 1, 1) := by decide +kernel
theorem d_Z_check_2 : decode b_Z_check 2 = .ok (.invokevirtual 71, 3) := by decide +kernel
theorem d_Z_check_5 : decode b_Z_check 5 = .ok (.ifCond .ne 5, 3) := by decide +kernel
theorem d_Z_check_8 : decode b_Z_check 8 = .ok (.iconst 0, 1) := by decide +kernel
theorem d_Z_check_9 : decode b_Z_check 9 = .ok (.ireturn, 1) := by decide +kernel
theorem d_Z_check_10 : decode b_Z_check 10 = .ok (.aload_n 0, 1) := by decide +kernel
theorem d_Z_check_11 : decode b_Z_check 11 = .ok (.getfield 22, 3) := by decide +kernel
theorem d_Z_check_14 : decode b_Z_check 14 = .ok (.iload_n 1, 1) := by decide +kernel
theorem d_Z_check_15 : decode b_Z_check 15 = .ok (.iaload, 1) := by decide +kernel
theorem d_Z_check_16 : decode b_Z_check 16 = .ok (.ifCond .ne 11, 3) := by decide +kernel
theorem d_Z_check_19 : decode b_Z_check 19 = .ok (.aload_n 0, 1) := by decide +kernel
theorem d_Z_check_20 : decode b_Z_check 20 = .ok (.iconst 2, 1) := by decide +kernel
theorem d_Z_check_21 : decode b_Z_check 21 = .ok (.invokevirtual 67, 3) := by decide +kernel
theorem d_Z_check_24 : decode b_Z_check 24 = .ok (.goto 8, 3) := by decide +kernel
theorem d_Z_check_27 : decode b_Z_check 27 = .ok (.aload_n 0, 1) := by decide +kernel
theorem d_Z_check_28 : decode b_Z_check 28 = .ok (.iload_n 1, 1) := by decide +kernel
theorem d_Z_check_29 : decode b_Z_check 29 = .ok (.invokevirtual 114, 3) := by decide +kernel
theorem d_Z_check_32 : decode b_Z_check 32 = .ok (.ireturn, 1) := by decide +kernel
theorem d_Z_checkOf_0 : decode b_Z_checkOf 0 = .ok (.aload_n 0, 1) := by decide +kernel
theorem d_Z_checkOf_1 : decode b_Z_checkOf 1 = .ok (.iload_n 1, 1) := by decide +kernel
theorem d_Z_checkOf_2 : decode b_Z_checkOf 2 = .ok (.invokevirtual 111, 3) := by decide +kernel
theorem d_Z_checkOf_5 : decode b_Z_checkOf 5 = .ok (.istore_n 2, 1) := by decide +kernel
theorem d_Z_checkOf_6 : decode b_Z_checkOf 6 = .ok (.aload_n 0, 1) := by decide +kernel
theorem d_Z_checkOf_7 : decode b_Z_checkOf 7 = .ok (.getfield 28, 3) := by decide +kernel
theorem d_Z_checkOf_10 : decode b_Z_checkOf 10 = .ok (.iload_n 1, 1) := by decide +kernel
theorem d_Z_checkOf_11 : decode b_Z_checkOf 11 = .ok (.iaload, 1) := by decide +kernel
theorem d_Z_checkOf_12 : decode b_Z_checkOf 12 = .ok (.istore_n 3, 1) := by decide +kernel
theorem d_Z_checkOf_13 : decode b_Z_checkOf 13 = .ok (.iconst 0, 1) := by decide +kernel
theorem d_Z_checkOf_14 : decode b_Z_checkOf 14 = .ok (.istore 4, 2) := by decide +kernel
theorem d_Z_checkOf_16 : decode b_Z_checkOf 16 = .ok (.iload 4, 2) := by decide +kernel
theorem d_Z_checkOf_18 : decode b_Z_checkOf 18 = .ok (.iload_n 3, 1) := by decide +kernel
theorem d_Z_checkOf_19 : decode b_Z_checkOf 19 = .ok (.if_icmp .ge 102, 3) := by decide +kernel
theorem d_Z_checkOf_22 : decode b_Z_checkOf 22 = .ok (.iload_n 2, 1) := by decide +kernel
theorem d_Z_checkOf_23 : decode b_Z_checkOf 23 = .ok (.ifCond .ne 98, 3) := by decide +kernel
theorem d_Z_checkOf_26 : decode b_Z_checkOf 26 = .ok (.sipush 300, 3) := by decide +kernel
theorem d_Z_checkOf_29 : decode b_Z_checkOf 29 = .ok (.iload_n 1, 1) := by decide +kernel
theorem d_Z_checkOf_30 : decode b_Z_checkOf 30 = .ok (.imul, 1) := by decide +kernel
theorem d_Z_checkOf_31 : decode b_Z_checkOf 31 = .ok (.iload 4, 2) := by decide +kernel
theorem d_Z_checkOf_33 : decode b_Z_checkOf 33 = .ok (.iadd, 1) := by decide +kernel
theorem d_Z_checkOf_34 : decode b_Z_checkOf 34 = .ok (.istore 5, 2) := by decide +kernel
theorem d_Z_checkOf_36 : decode b_Z_checkOf 36 = .ok (.aload_n 0, 1) := by decide +kernel
theorem d_Z_checkOf_37 : decode b_Z_checkOf 37 = .ok (.getfield 37, 3) := by decide +kernel
theorem d_Z_checkOf_40 : decode b_Z_checkOf 40 = .ok (.iload 4, 2) := by decide +kernel
theorem d_Z_checkOf_42 : decode b_Z_checkOf 42 = .ok (.iaload, 1) := by decide +kernel
theorem d_Z_checkOf_43 : decode b_Z_checkOf 43 = .ok (.ifCond .lt 72, 3) := by decide +kernel
theorem d_Z_checkOf_46 : decode b_Z_checkOf 46 = .ok (.aload_n 0, 1) := by decide +kernel
theorem d_Z_checkOf_47 : decode b_Z_checkOf 47 = .ok (.getfield 31, 3) := by decide +kernel
theorem d_Z_checkOf_50 : decode b_Z_checkOf 50 = .ok (.iload 5, 2) := by decide +kernel
theorem d_Z_checkOf_52 : decode b_Z_checkOf 52 = .ok (.iaload, 1) := by decide +kernel
theorem d_Z_checkOf_53 : decode b_Z_checkOf 53 = .ok (.bipush 9, 2) := by decide +kernel
theorem d_Z_checkOf_55 : decode b_Z_checkOf 55 = .ok (.if_icmp .ne 60, 3) := by decide +kernel
theorem d_Z_checkOf_58 : decode b_Z_checkOf 58 = .ok (.sipush 256, 3) := by decide +kernel
theorem d_Z_checkOf_61 : decode b_Z_checkOf 61 = .ok (.aload_n 0, 1) := by decide +kernel
theorem d_Z_checkOf_62 : decode b_Z_checkOf 62 = .ok (.getfield 31, 3) := by decide +kernel
theorem d_Z_checkOf_65 : decode b_Z_checkOf 65 = .ok (.iload 5, 2) := by decide +kernel
theorem d_Z_checkOf_67 : decode b_Z_checkOf 67 = .ok (.iconst 1, 1) := by decide +kernel
theorem d_Z_checkOf_68 : decode b_Z_checkOf 68 = .ok (.iadd, 1) := by decide +kernel
theorem d_Z_checkOf_69 : decode b_Z_checkOf 69 = .ok (.iaload, 1) := by decide +kernel
theorem d_Z_checkOf_70 : decode b_Z_checkOf 70 = .ok (.imul, 1) := by decide +kernel
theorem d_Z_checkOf_71 : decode b_Z_checkOf 71 = .ok (.aload_n 0, 1) := by decide +kernel
theorem d_Z_checkOf_72 : decode b_Z_checkOf 72 = .ok (.getfield 31, 3) := by decide +kernel
theorem d_Z_checkOf_75 : decode b_Z_checkOf 75 = .ok (.iload 5, 2) := by decide +kernel
theorem d_Z_checkOf_77 : decode b_Z_checkOf 77 = .ok (.iconst 2, 1) := by decide +kernel
theorem d_Z_checkOf_78 : decode b_Z_checkOf 78 = .ok (.iadd, 1) := by decide +kernel
theorem d_Z_checkOf_79 : decode b_Z_checkOf 79 = .ok (.iaload, 1) := by decide +kernel
theorem d_Z_checkOf_80 : decode b_Z_checkOf 80 = .ok (.iadd, 1) := by decide +kernel
theorem d_Z_checkOf_81 : decode b_Z_checkOf 81 = .ok (.istore 6, 2) := by decide +kernel
theorem d_Z_checkOf_83 : decode b_Z_checkOf 83 = .ok (.aload_n 0, 1) := by decide +kernel
theorem d_Z_checkOf_84 : decode b_Z_checkOf 84 = .ok (.getfield 37, 3) := by decide +kernel
theorem d_Z_checkOf_87 : decode b_Z_checkOf 87 = .ok (.iload 4, 2) := by decide +kernel
theorem d_Z_checkOf_89 : decode b_Z_checkOf 89 = .ok (.iaload, 1) := by decide +kernel
theorem d_Z_checkOf_90 : decode b_Z_checkOf 90 = .ok (.iconst 1, 1) := by decide +kernel
theorem d_Z_checkOf_91 : decode b_Z_checkOf 91 = .ok (.if_icmp .ne 19, 3) := by decide +kernel
theorem d_Z_checkOf_94 : decode b_Z_checkOf 94 = .ok (.iload 6, 2) := by decide +kernel
theorem d_Z_checkOf_96 : decode b_Z_checkOf 96 = .ok (.iload_n 3, 1) := by decide +kernel
theorem d_Z_checkOf_97 : decode b_Z_checkOf 97 = .ok (.if_icmp .ge 13, 3) := by decide +kernel
theorem d_Z_checkOf_100 : decode b_Z_checkOf 100 = .ok (.aload_n 0, 1) := by decide +kernel
theorem d_Z_checkOf_101 : decode b_Z_checkOf 101 = .ok (.getfield 37, 3) := by decide +kernel
theorem d_Z_checkOf_104 : decode b_Z_checkOf 104 = .ok (.iload 6, 2) := by decide +kernel
theorem d_Z_checkOf_106 : decode b_Z_checkOf 106 = .ok (.iaload, 1) := by decide +kernel
theorem d_Z_checkOf_107 : decode b_Z_checkOf 107 = .ok (.ifCond .eq 8, 3) := by decide +kernel
theorem d_Z_checkOf_110 : decode b_Z_checkOf 110 = .ok (.iconst 1, 1) := by decide +kernel
theorem d_Z_checkOf_111 : decode b_Z_checkOf 111 = .ok (.iload 4, 2) := by decide +kernel
theorem d_Z_checkOf_113 : decode b_Z_checkOf 113 = .ok (.iadd, 1) := by decide +kernel
theorem d_Z_checkOf_114 : decode b_Z_checkOf 114 = .ok (.istore_n 2, 1) := by decide +kernel
theorem d_Z_checkOf_115 : decode b_Z_checkOf 115 = .ok (.iinc 4 1, 3) := by decide +kernel
theorem d_Z_checkOf_118 : decode b_Z_checkOf 118 = .ok (.goto (-102), 3) := by decide +kernel
theorem d_Z_checkOf_121 : decode b_Z_checkOf 121 = .ok (.iload_n 2, 1) := by decide +kernel
theorem d_Z_checkOf_122 : decode b_Z_checkOf 122 = .ok (.ireturn, 1) := by decide +kernel
theorem d_Z_checkCodes_0 : decode b_Z_checkCodes 0 = .ok (.aload_n 0, 1) := by decide +kernel
theorem d_Z_checkCodes_1 : decode b_Z_checkCodes 1 = .ok (.getfield 28, 3) := by decide +kernel
theorem d_Z_checkCodes_4 : decode b_Z_checkCodes 4 = .ok (.iload_n 1, 1) := by decide +kernel
theorem d_Z_checkCodes_5 : decode b_Z_checkCodes 5 = .ok (.iaload, 1) := by decide +kernel
theorem d_Z_checkCodes_6 : decode b_Z_checkCodes 6 = .ok (.istore_n 2, 1) := by decide +kernel
theorem d_Z_checkCodes_7 : decode b_Z_checkCodes 7 = .ok (.iconst 0, 1) := by decide +kernel
theorem d_Z_checkCodes_8 : decode b_Z_checkCodes 8 = .ok (.istore_n 3, 1) := by decide +kernel
theorem d_Z_checkCodes_9 : decode b_Z_checkCodes 9 = .ok (.iload_n 3, 1) := by decide +kernel
theorem d_Z_checkCodes_10 : decode b_Z_checkCodes 10 = .ok (.iload_n 2, 1) := by decide +kernel
theorem d_Z_checkCodes_11 : decode b_Z_checkCodes 11 = .ok (.if_icmp .gt 16, 3) := by decide +kernel
theorem d_Z_checkCodes_14 : decode b_Z_checkCodes 14 = .ok (.aload_n 0, 1) := by decide +kernel
theorem d_Z_checkCodes_15 : decode b_Z_checkCodes 15 = .ok (.getfield 37, 3) := by decide +kernel
theorem d_Z_checkCodes_18 : decode b_Z_checkCodes 18 = .ok (.iload_n 3, 1) := by decide +kernel
theorem d_Z_checkCodes_19 : decode b_Z_checkCodes 19 = .ok (.iconst (-1), 1) := by decide +kernel
theorem d_Z_checkCodes_20 : decode b_Z_checkCodes 20 = .ok (.iastore, 1) := by decide +kernel
theorem d_Z_checkCodes_21 : decode b_Z_checkCodes 21 = .ok (.iinc 3 1, 3) := by decide +kernel
theorem d_Z_checkCodes_24 : decode b_Z_checkCodes 24 = .ok (.goto (-15), 3) := by decide +kernel
theorem d_Z_checkCodes_27 : decode b_Z_checkCodes 27 = .ok (.iconst 0, 1) := by decide +kernel
theorem d_Z_checkCodes_28 : decode b_Z_checkCodes 28 = .ok (.istore_n 3, 1) := by decide +kernel
theorem d_Z_checkCodes_29 : decode b_Z_checkCodes 29 = .ok (.iconst 0, 1) := by decide +kernel
theorem d_Z_checkCodes_30 : decode b_Z_checkCodes 30 = .ok (.istore 4, 2) := by decide +kernel
theorem d_Z_checkCodes_32 : decode b_Z_checkCodes 32 = .ok (.iload 4, 2) := by decide +kernel
theorem d_Z_checkCodes_34 : decode b_Z_checkCodes 34 = .ok (.iload_n 2, 1) := by decide +kernel
theorem d_Z_checkCodes_35 : decode b_Z_checkCodes 35 = .ok (.if_icmp .ge 172, 3) := by decide +kernel
theorem d_Z_checkCodes_38 : decode b_Z_checkCodes 38 = .ok (.aload_n 0, 1) := by decide +kernel
theorem d_Z_checkCodes_39 : decode b_Z_checkCodes 39 = .ok (.getfield 31, 3) := by decide +kernel
theorem d_Z_checkCodes_42 : decode b_Z_checkCodes 42 = .ok (.sipush 300, 3) := by decide +kernel
theorem d_Z_checkCodes_45 : decode b_Z_checkCodes 45 = .ok (.iload_n 1, 1) := by decide +kernel
theorem d_Z_checkCodes_46 : decode b_Z_checkCodes 46 = .ok (.imul, 1) := by decide +kernel
theorem d_Z_checkCodes_47 : decode b_Z_checkCodes 47 = .ok (.iload 4, 2) := by decide +kernel
theorem d_Z_checkCodes_49 : decode b_Z_checkCodes 49 = .ok (.iadd, 1) := by decide +kernel
theorem d_Z_checkCodes_50 : decode b_Z_checkCodes 50 = .ok (.iaload, 1) := by decide +kernel
theorem d_Z_checkCodes_51 : decode b_Z_checkCodes 51 = .ok (.istore 5, 2) := by decide +kernel
theorem d_Z_checkCodes_53 : decode b_Z_checkCodes 53 = .ok (.iload 5, 2) := by decide +kernel
theorem d_Z_checkCodes_55 : decode b_Z_checkCodes 55 = .ok (.invokestatic 99, 3) := by decide +kernel
theorem d_Z_checkCodes_58 : decode b_Z_checkCodes 58 = .ok (.ifCond .eq 15, 3) := by decide +kernel
theorem d_Z_checkCodes_61 : decode b_Z_checkCodes 61 = .ok (.iload 4, 2) := by decide +kernel
theorem d_Z_checkCodes_63 : decode b_Z_checkCodes 63 = .ok (.iload 5, 2) := by decide +kernel
theorem d_Z_checkCodes_65 : decode b_Z_checkCodes 65 = .ok (.invokestatic 102, 3) := by decide +kernel
theorem d_Z_checkCodes_68 : decode b_Z_checkCodes 68 = .ok (.iadd, 1) := by decide +kernel
theorem d_Z_checkCodes_69 : decode b_Z_checkCodes 69 = .ok (.iload_n 2, 1) := by decide +kernel
theorem d_Z_checkCodes_70 : decode b_Z_checkCodes 70 = .ok (.if_icmp .le 8, 3) := by decide +kernel
theorem d_Z_checkCodes_73 : decode b_Z_checkCodes 73 = .ok (.iconst 1, 1) := by decide +kernel
theorem d_Z_checkCodes_74 : decode b_Z_checkCodes 74 = .ok (.iload 4, 2) := by decide +kernel
theorem d_Z_checkCodes_76 : decode b_Z_checkCodes 76 = .ok (.iadd, 1) := by decide +kernel
theorem d_Z_checkCodes_77 : decode b_Z_checkCodes 77 = .ok (.ireturn, 1) := by decide +kernel
theorem d_Z_checkCodes_78 : decode b_Z_checkCodes 78 = .ok (.iload 5, 2) := by decide +kernel
theorem d_Z_checkCodes_80 : decode b_Z_checkCodes 80 = .ok (.iconst 3, 1) := by decide +kernel
theorem d_Z_checkCodes_81 : decode b_Z_checkCodes 81 = .ok (.if_icmp .ge 27, 3) := by decide +kernel
theorem d_Z_checkCodes_84 : decode b_Z_checkCodes 84 = .ok (.aload_n 0, 1) := by decide +kernel
theorem d_Z_checkCodes_85 : decode b_Z_checkCodes 85 = .ok (.getfield 31, 3) := by decide +kernel
theorem d_Z_checkCodes_88 : decode b_Z_checkCodes 88 = .ok (.sipush 300, 3) := by decide +kernel
theorem d_Z_checkCodes_91 : decode b_Z_checkCodes 91 = .ok (.iload_n 1, 1) := by decide +kernel
theorem d_Z_checkCodes_92 : decode b_Z_checkCodes 92 = .ok (.imul, 1) := by decide +kernel
theorem d_Z_checkCodes_93 : decode b_Z_checkCodes 93 = .ok (.iload 4, 2) := by decide +kernel
theorem d_Z_checkCodes_95 : decode b_Z_checkCodes 95 = .ok (.iadd, 1) := by decide +kernel
theorem d_Z_checkCodes_96 : decode b_Z_checkCodes 96 = .ok (.iconst 1, 1) := by decide +kernel
theorem d_Z_checkCodes_97 : decode b_Z_checkCodes 97 = .ok (.iadd, 1) := by decide +kernel
theorem d_Z_checkCodes_98 : decode b_Z_checkCodes 98 = .ok (.iaload, 1) := by decide +kernel
theorem d_Z_checkCodes_99 : decode b_Z_checkCodes 99 = .ok (.iconst 3, 1) := by decide +kernel
theorem d_Z_checkCodes_100 : decode b_Z_checkCodes 100 = .ok (.if_icmp .le 8, 3) := by decide +kernel
theorem d_Z_checkCodes_103 : decode b_Z_checkCodes 103 = .ok (.iconst 1, 1) := by decide +kernel
theorem d_Z_checkCodes_104 : decode b_Z_checkCodes 104 = .ok (.iload 4, 2) := by decide +kernel
theorem d_Z_checkCodes_106 : decode b_Z_checkCodes 106 = .ok (.iadd, 1) := by decide +kernel
theorem d_Z_checkCodes_107 : decode b_Z_checkCodes 107 = .ok (.ireturn, 1) := by decide +kernel
theorem d_Z_checkCodes_108 : decode b_Z_checkCodes 108 = .ok (.iload_n 3, 1) := by decide +kernel
theorem d_Z_checkCodes_109 : decode b_Z_checkCodes 109 = .ok (.iload 5, 2) := by decide +kernel
theorem d_Z_checkCodes_111 : decode b_Z_checkCodes 111 = .ok (.invokestatic 105, 3) := by decide +kernel
theorem d_Z_checkCodes_114 : decode b_Z_checkCodes 114 = .ok (.isub, 1) := by decide +kernel
theorem d_Z_checkCodes_115 : decode b_Z_checkCodes 115 = .ok (.iload 5, 2) := by decide +kernel
theorem d_Z_checkCodes_117 : decode b_Z_checkCodes 117 = .ok (.invokestatic 108, 3) := by decide +kernel
theorem d_Z_checkCodes_120 : decode b_Z_checkCodes 120 = .ok (.iadd, 1) := by decide +kernel
theorem d_Z_checkCodes_121 : decode b_Z_checkCodes 121 = .ok (.istore 6, 2) := by decide +kernel
theorem d_Z_checkCodes_123 : decode b_Z_checkCodes 123 = .ok (.iload_n 3, 1) := by decide +kernel
theorem d_Z_checkCodes_124 : decode b_Z_checkCodes 124 = .ok (.iload 5, 2) := by decide +kernel
theorem d_Z_checkCodes_126 : decode b_Z_checkCodes 126 = .ok (.invokestatic 105, 3) := by decide +kernel
theorem d_Z_checkCodes_129 : decode b_Z_checkCodes 129 = .ok (.if_icmp .lt 20, 3) := by decide +kernel
theorem d_Z_checkCodes_132 : decode b_Z_checkCodes 132 = .ok (.iload 6, 2) := by decide +kernel
theorem d_Z_checkCodes_134 : decode b_Z_checkCodes 134 = .ok (.iconst 4, 1) := by decide +kernel
theorem d_Z_checkCodes_135 : decode b_Z_checkCodes 135 = .ok (.if_icmp .gt 14, 3) := by decide +kernel
theorem d_Z_checkCodes_138 : decode b_Z_checkCodes 138 = .ok (.iload 5, 2) := by decide +kernel
theorem d_Z_checkCodes_140 : decode b_Z_checkCodes 140 = .ok (.bipush 10, 2) := by decide +kernel
theorem d_Z_checkCodes_142 : decode b_Z_checkCodes 142 = .ok (.if_icmp .ne 12, 3) := by decide +kernel
theorem d_Z_checkCodes_145 : decode b_Z_checkCodes 145 = .ok (.iload_n 3, 1) := by decide +kernel
theorem d_Z_checkCodes_146 : decode b_Z_checkCodes 146 = .ok (.ifCond .eq 8, 3) := by decide +kernel
theorem d_Z_checkCodes_149 : decode b_Z_checkCodes 149 = .ok (.iconst 1, 1) := by decide +kernel
theorem d_Z_checkCodes_150 : decode b_Z_checkCodes 150 = .ok (.iload 4, 2) := by decide +kernel
theorem d_Z_checkCodes_152 : decode b_Z_checkCodes 152 = .ok (.iadd, 1) := by decide +kernel
theorem d_Z_checkCodes_153 : decode b_Z_checkCodes 153 = .ok (.ireturn, 1) := by decide +kernel
theorem d_Z_checkCodes_154 : decode b_Z_checkCodes 154 = .ok (.iload 5, 2) := by decide +kernel
theorem d_Z_checkCodes_156 : decode b_Z_checkCodes 156 = .ok (.bipush 10, 2) := by decide +kernel
theorem d_Z_checkCodes_158 : decode b_Z_checkCodes 158 = .ok (.if_icmp .ne 16, 3) := by decide +kernel
theorem d_Z_checkCodes_161 : decode b_Z_checkCodes 161 = .ok (.iload 4, 2) := by decide +kernel
theorem d_Z_checkCodes_163 : decode b_Z_checkCodes 163 = .ok (.iconst 1, 1) := by decide +kernel
theorem d_Z_checkCodes_164 : decode b_Z_checkCodes 164 = .ok (.iadd, 1) := by decide +kernel
theorem d_Z_checkCodes_165 : decode b_Z_checkCodes 165 = .ok (.iload_n 2, 1) := by decide +kernel
theorem d_Z_checkCodes_166 : decode b_Z_checkCodes 166 = .ok (.if_icmp .ge 8, 3) := by decide +kernel
theorem d_Z_checkCodes_169 : decode b_Z_checkCodes 169 = .ok (.iconst 2, 1) := by decide +kernel
theorem d_Z_checkCodes_170 : decode b_Z_checkCodes 170 = .ok (.iload 4, 2) := by decide +kernel
theorem d_Z_checkCodes_172 : decode b_Z_checkCodes 172 = .ok (.iadd, 1) := by decide +kernel
theorem d_Z_checkCodes_173 : decode b_Z_checkCodes 173 = .ok (.ireturn, 1) := by decide +kernel
theorem d_Z_checkCodes_174 : decode b_Z_checkCodes 174 = .ok (.aload_n 0, 1) := by decide +kernel
theorem d_Z_checkCodes_175 : decode b_Z_checkCodes 175 = .ok (.getfield 37, 3) := by decide +kernel
theorem d_Z_checkCodes_178 : decode b_Z_checkCodes 178 = .ok (.iload 4, 2) := by decide +kernel
theorem d_Z_checkCodes_180 : decode b_Z_checkCodes 180 = .ok (.iload_n 3, 1) := by decide +kernel
theorem d_Z_checkCodes_181 : decode b_Z_checkCodes 181 = .ok (.iastore, 1) := by decide +kernel
theorem d_Z_checkCodes_182 : decode b_Z_checkCodes 182 = .ok (.iload 5, 2) := by decide +kernel
theorem d_Z_checkCodes_184 : decode b_Z_checkCodes 184 = .ok (.bipush 10, 2) := by decide +kernel
theorem d_Z_checkCodes_186 : decode b_Z_checkCodes 186 = .ok (.if_icmp .ne 5, 3) := by decide +kernel
theorem d_Z_checkCodes_189 : decode b_Z_checkCodes 189 = .ok (.iconst 0, 1) := by decide +kernel
theorem d_Z_checkCodes_190 : decode b_Z_checkCodes 190 = .ok (.ireturn, 1) := by decide +kernel
theorem d_Z_checkCodes_191 : decode b_Z_checkCodes 191 = .ok (.iload 6, 2) := by decide +kernel
theorem d_Z_checkCodes_193 : decode b_Z_checkCodes 193 = .ok (.istore_n 3, 1) := by decide +kernel
theorem d_Z_checkCodes_194 : decode b_Z_checkCodes 194 = .ok (.iload 4, 2) := by decide +kernel
theorem d_Z_checkCodes_196 : decode b_Z_checkCodes 196 = .ok (.iload 5, 2) := by decide +kernel
theorem d_Z_checkCodes_198 : decode b_Z_checkCodes 198 = .ok (.invokestatic 102, 3) := by decide +kernel
theorem d_Z_checkCodes_201 : decode b_Z_checkCodes 201 = .ok (.iadd, 1) := by decide +kernel
theorem d_Z_checkCodes_202 : decode b_Z_checkCodes 202 = .ok (.istore 4, 2) := by decide +kernel
theorem d_Z_checkCodes_204 : decode b_Z_checkCodes 204 = .ok (.goto (-172), 3) := by decide +kernel
theorem d_Z_checkCodes_207 : decode b_Z_checkCodes 207 = .ok (.iconst 1, 1) := by decide +kernel
theorem d_Z_checkCodes_208 : decode b_Z_checkCodes 208 = .ok (.iload_n 2, 1) := by decide +kernel
theorem d_Z_checkCodes_209 : decode b_Z_checkCodes 209 = .ok (.iadd, 1) := by decide +kernel
theorem d_Z_checkCodes_210 : decode b_Z_checkCodes 210 = .ok (.ireturn, 1) := by decide +kernel
theorem d_Z_isCode_0 : decode b_Z_isCode 0 = .ok (.iload_n 0, 1) := by decide +kernel
theorem d_Z_isCode_1 : decode b_Z_isCode 1 = .ok (.iconst 1, 1) := by decide +kernel
theorem d_Z_isCode_2 : decode b_Z_isCode 2 = .ok (.bipush 10, 2) := by decide +kernel
theorem d_Z_isCode_4 : decode b_Z_isCode 4 = .ok (.invokestatic 63, 3) := by decide +kernel
theorem d_Z_isCode_7 : decode b_Z_isCode 7 = .ok (.ifCond .ne 9, 3) := by decide +kernel
theorem d_Z_isCode_10 : decode b_Z_isCode 10 = .ok (.iload_n 0, 1) := by decide +kernel
theorem d_Z_isCode_11 : decode b_Z_isCode 11 = .ok (.bipush 16, 2) := by decide +kernel
theorem d_Z_isCode_13 : decode b_Z_isCode 13 = .ok (.if_icmp .ne 7, 3) := by decide +kernel
theorem d_Z_isCode_16 : decode b_Z_isCode 16 = .ok (.iconst 1, 1) := by decide +kernel
theorem d_Z_isCode_17 : decode b_Z_isCode 17 = .ok (.goto 4, 3) := by decide +kernel
theorem d_Z_isCode_20 : decode b_Z_isCode 20 = .ok (.iconst 0, 1) := by decide +kernel
theorem d_Z_isCode_21 : decode b_Z_isCode 21 = .ok (.ireturn, 1) := by decide +kernel
theorem d_Z_lengthOf_0 : decode b_Z_lengthOf 0 = .ok (.iload_n 0, 1) := by decide +kernel
theorem d_Z_lengthOf_1 : decode b_Z_lengthOf 1 = .ok (.iconst 3, 1) := by decide +kernel
theorem d_Z_lengthOf_2 : decode b_Z_lengthOf 2 = .ok (.if_icmp .ne 7, 3) := by decide +kernel
theorem d_Z_lengthOf_5 : decode b_Z_lengthOf 5 = .ok (.iconst 5, 1) := by decide +kernel
theorem d_Z_lengthOf_6 : decode b_Z_lengthOf 6 = .ok (.goto 29, 3) := by decide +kernel
theorem d_Z_lengthOf_9 : decode b_Z_lengthOf 9 = .ok (.iload_n 0, 1) := by decide +kernel
theorem d_Z_lengthOf_10 : decode b_Z_lengthOf 10 = .ok (.bipush 9, 2) := by decide +kernel
theorem d_Z_lengthOf_12 : decode b_Z_lengthOf 12 = .ok (.if_icmp .ne 7, 3) := by decide +kernel
theorem d_Z_lengthOf_15 : decode b_Z_lengthOf 15 = .ok (.iconst 3, 1) := by decide +kernel
theorem d_Z_lengthOf_16 : decode b_Z_lengthOf 16 = .ok (.goto 19, 3) := by decide +kernel
theorem d_Z_lengthOf_19 : decode b_Z_lengthOf 19 = .ok (.iload_n 0, 1) := by decide +kernel
theorem d_Z_lengthOf_20 : decode b_Z_lengthOf 20 = .ok (.iconst 3, 1) := by decide +kernel
theorem d_Z_lengthOf_21 : decode b_Z_lengthOf 21 = .ok (.if_icmp .lt 9, 3) := by decide +kernel
theorem d_Z_lengthOf_24 : decode b_Z_lengthOf 24 = .ok (.iload_n 0, 1) := by decide +kernel
theorem d_Z_lengthOf_25 : decode b_Z_lengthOf 25 = .ok (.bipush 16, 2) := by decide +kernel
theorem d_Z_lengthOf_27 : decode b_Z_lengthOf 27 = .ok (.if_icmp .ne 7, 3) := by decide +kernel
theorem d_Z_lengthOf_30 : decode b_Z_lengthOf 30 = .ok (.iconst 2, 1) := by decide +kernel
theorem d_Z_lengthOf_31 : decode b_Z_lengthOf 31 = .ok (.goto 4, 3) := by decide +kernel
theorem d_Z_lengthOf_34 : decode b_Z_lengthOf 34 = .ok (.iconst 1, 1) := by decide +kernel
theorem d_Z_lengthOf_35 : decode b_Z_lengthOf 35 = .ok (.ireturn, 1) := by decide +kernel
theorem d_Z_takes_0 : decode b_Z_takes 0 = .ok (.iload_n 0, 1) := by decide +kernel
theorem d_Z_takes_1 : decode b_Z_takes 1 = .ok (.iconst 2, 1) := by decide +kernel
theorem d_Z_takes_2 : decode b_Z_takes 2 = .ok (.if_icmp .eq 9, 3) := by decide +kernel
theorem d_Z_takes_5 : decode b_Z_takes 5 = .ok (.iload_n 0, 1) := by decide +kernel
theorem d_Z_takes_6 : decode b_Z_takes 6 = .ok (.bipush 9, 2) := by decide +kernel
theorem d_Z_takes_8 : decode b_Z_takes 8 = .ok (.if_icmp .ne 7, 3) := by decide +kernel
theorem d_Z_takes_11 : decode b_Z_takes 11 = .ok (.iconst 1, 1) := by decide +kernel
theorem d_Z_takes_12 : decode b_Z_takes 12 = .ok (.goto 18, 3) := by decide +kernel
theorem d_Z_takes_15 : decode b_Z_takes 15 = .ok (.iload_n 0, 1) := by decide +kernel
theorem d_Z_takes_16 : decode b_Z_takes 16 = .ok (.iconst 4, 1) := by decide +kernel
theorem d_Z_takes_17 : decode b_Z_takes 17 = .ok (.bipush 8, 2) := by decide +kernel
theorem d_Z_takes_19 : decode b_Z_takes 19 = .ok (.invokestatic 63, 3) := by decide +kernel
theorem d_Z_takes_22 : decode b_Z_takes 22 = .ok (.ifCond .eq 7, 3) := by decide +kernel
theorem d_Z_takes_25 : decode b_Z_takes 25 = .ok (.iconst 2, 1) := by decide +kernel
theorem d_Z_takes_26 : decode b_Z_takes 26 = .ok (.goto 4, 3) := by decide +kernel
theorem d_Z_takes_29 : decode b_Z_takes 29 = .ok (.iconst 0, 1) := by decide +kernel
theorem d_Z_takes_30 : decode b_Z_takes 30 = .ok (.ireturn, 1) := by decide +kernel
theorem d_Z_puts_0 : decode b_Z_puts 0 = .ok (.iload_n 0, 1) := by decide +kernel
theorem d_Z_puts_1 : decode b_Z_puts 1 = .ok (.iconst 2, 1) := by decide +kernel
theorem d_Z_puts_2 : decode b_Z_puts 2 = .ok (.if_icmp .eq 15, 3) := by decide +kernel
theorem d_Z_puts_5 : decode b_Z_puts 5 = .ok (.iload_n 0, 1) := by decide +kernel
theorem d_Z_puts_6 : decode b_Z_puts 6 = .ok (.bipush 9, 2) := by decide +kernel
theorem d_Z_puts_8 : decode b_Z_puts 8 = .ok (.if_icmp .eq 9, 3) := by decide +kernel
theorem d_Z_puts_11 : decode b_Z_puts 11 = .ok (.iload_n 0, 1) := by decide +kernel
theorem d_Z_puts_12 : decode b_Z_puts 12 = .ok (.bipush 10, 2) := by decide +kernel
theorem d_Z_puts_14 : decode b_Z_puts 14 = .ok (.if_icmp .ne 7, 3) := by decide +kernel
theorem d_Z_puts_17 : decode b_Z_puts 17 = .ok (.iconst 0, 1) := by decide +kernel
theorem d_Z_puts_18 : decode b_Z_puts 18 = .ok (.goto 4, 3) := by decide +kernel
theorem d_Z_puts_21 : decode b_Z_puts 21 = .ok (.iconst 1, 1) := by decide +kernel
theorem d_Z_puts_22 : decode b_Z_puts 22 = .ok (.ireturn, 1) := by decide +kernel
theorem d_Z_border_0 : decode b_Z_border 0 = .ok (.aload_n 0, 1) := by decide +kernel
theorem d_Z_border_1 : decode b_Z_border 1 = .ok (.iconst 0, 1) := by decide +kernel
theorem d_Z_border_2 : decode b_Z_border 2 = .ok (.putfield 57, 3) := by decide +kernel
theorem d_Z_border_5 : decode b_Z_border 5 = .ok (.iconst 0, 1) := by decide +kernel
theorem d_Z_border_6 : decode b_Z_border 6 = .ok (.istore_n 1, 1) := by decide +kernel
theorem d_Z_border_7 : decode b_Z_border 7 = .ok (.iconst 0, 1) := by decide +kernel
theorem d_Z_border_8 : decode b_Z_border 8 = .ok (.istore_n 2, 1) := by decide +kernel
theorem d_Z_border_9 : decode b_Z_border 9 = .ok (.iload_n 2, 1) := by decide +kernel
theorem d_Z_border_10 : decode b_Z_border 10 = .ok (.aload_n 0, 1) := by decide +kernel
theorem d_Z_border_11 : decode b_Z_border 11 = .ok (.getfield 60, 3) := by decide +kernel
theorem d_Z_border_14 : decode b_Z_border 14 = .ok (.if_icmp .ge 78, 3) := by decide +kernel
theorem d_Z_border_17 : decode b_Z_border 17 = .ok (.aload_n 0, 1) := by decide +kernel
theorem d_Z_border_18 : decode b_Z_border 18 = .ok (.getfield 22, 3) := by decide +kernel
theorem d_Z_border_21 : decode b_Z_border 21 = .ok (.iload_n 2, 1) := by decide +kernel
theorem d_Z_border_22 : decode b_Z_border 22 = .ok (.iaload, 1) := by decide +kernel
theorem d_Z_border_23 : decode b_Z_border 23 = .ok (.iconst 1, 1) := by decide +kernel
theorem d_Z_border_24 : decode b_Z_border 24 = .ok (.if_icmp .ne 62, 3) := by decide +kernel
theorem d_Z_border_27 : decode b_Z_border 27 = .ok (.aload_n 0, 1) := by decide +kernel
