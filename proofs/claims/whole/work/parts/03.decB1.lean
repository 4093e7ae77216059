theorem d_B_read_0 : decode b_B_read 0 = .ok (.aload_n 0, 1) := by decide +kernel
theorem d_B_read_1 : decode b_B_read 1 = .ok (.iload_n 1, 1) := by decide +kernel
theorem d_B_read_2 : decode b_B_read 2 = .ok (.invokevirtual 81, 3) := by decide +kernel
theorem d_B_read_5 : decode b_B_read 5 = .ok (.ifCond .eq 12, 3) := by decide +kernel
theorem d_B_read_8 : decode b_B_read 8 = .ok (.aload_n 0, 1) := by decide +kernel
theorem d_B_read_9 : decode b_B_read 9 = .ok (.getfield 24, 3) := by decide +kernel
theorem d_B_read_12 : decode b_B_read 12 = .ok (.iload_n 1, 1) := by decide +kernel
theorem d_B_read_13 : decode b_B_read 13 = .ok (.iaload, 1) := by decide +kernel
theorem d_B_read_14 : decode b_B_read 14 = .ok (.goto 4, 3) := by decide +kernel
theorem d_B_read_17 : decode b_B_read 17 = .ok (.iconst 0, 1) := by decide +kernel
theorem d_B_read_18 : decode b_B_read 18 = .ok (.ireturn, 1) := by decide +kernel
theorem d_B_hasByte_0 : decode b_B_hasByte 0 = .ok (.iload_n 1, 1) := by decide +kernel
theorem d_B_hasByte_1 : decode b_B_hasByte 1 = .ok (.ifCond .lt 22, 3) := by decide +kernel
theorem d_B_hasByte_4 : decode b_B_hasByte 4 = .ok (.iload_n 1, 1) := by decide +kernel
theorem d_B_hasByte_5 : decode b_B_hasByte 5 = .ok (.aload_n 0, 1) := by decide +kernel
theorem d_B_hasByte_6 : decode b_B_hasByte 6 = .ok (.getfield 41, 3) := by decide +kernel
theorem d_B_hasByte_9 : decode b_B_hasByte 9 = .ok (.if_icmp .ge 14, 3) := by decide +kernel
theorem d_B_hasByte_12 : decode b_B_hasByte 12 = .ok (.iload_n 1, 1) := by decide +kernel
theorem d_B_hasByte_13 : decode b_B_hasByte 13 = .ok (.sipush 300, 3) := by decide +kernel
theorem d_B_hasByte_16 : decode b_B_hasByte 16 = .ok (.if_icmp .ge 7, 3) := by decide +kernel
theorem d_B_hasByte_19 : decode b_B_hasByte 19 = .ok (.iconst 1, 1) := by decide +kernel
theorem d_B_hasByte_20 : decode b_B_hasByte 20 = .ok (.goto 4, 3) := by decide +kernel
theorem d_B_hasByte_23 : decode b_B_hasByte 23 = .ok (.iconst 0, 1) := by decide +kernel
theorem d_B_hasByte_24 : decode b_B_hasByte 24 = .ok (.ireturn, 1) := by decide +kernel
theorem d_B_readTwo_0 : decode b_B_readTwo 0 = .ok (.aload_n 0, 1) := by decide +kernel
theorem d_B_readTwo_1 : decode b_B_readTwo 1 = .ok (.iload_n 1, 1) := by decide +kernel
theorem d_B_readTwo_2 : decode b_B_readTwo 2 = .ok (.invokevirtual 84, 3) := by decide +kernel
theorem d_B_readTwo_5 : decode b_B_readTwo 5 = .ok (.bipush 8, 2) := by decide +kernel
theorem d_B_readTwo_7 : decode b_B_readTwo 7 = .ok (.ishl, 1) := by decide +kernel
theorem d_B_readTwo_8 : decode b_B_readTwo 8 = .ok (.aload_n 0, 1) := by decide +kernel
theorem d_B_readTwo_9 : decode b_B_readTwo 9 = .ok (.iload_n 1, 1) := by decide +kernel
theorem d_B_readTwo_10 : decode b_B_readTwo 10 = .ok (.iconst 1, 1) := by decide +kernel
theorem d_B_readTwo_11 : decode b_B_readTwo 11 = .ok (.iadd, 1) := by decide +kernel
theorem d_B_readTwo_12 : decode b_B_readTwo 12 = .ok (.invokevirtual 84, 3) := by decide +kernel
theorem d_B_readTwo_15 : decode b_B_readTwo 15 = .ok (.ior, 1) := by decide +kernel
theorem d_B_readTwo_16 : decode b_B_readTwo 16 = .ok (.ireturn, 1) := by decide +kernel
theorem d_B_becomeRows_0 : decode b_B_becomeRows 0 = .ok (.aload_n 0, 1) := by decide +kernel
theorem d_B_becomeRows_1 : decode b_B_becomeRows 1 = .ok (.iconst 0, 1) := by decide +kernel
theorem d_B_becomeRows_2 : decode b_B_becomeRows 2 = .ok (.putfield 27, 3) := by decide +kernel
theorem d_B_becomeRows_5 : decode b_B_becomeRows 5 = .ok (.aload_n 0, 1) := by decide +kernel
theorem d_B_becomeRows_6 : decode b_B_becomeRows 6 = .ok (.iconst (-1), 1) := by decide +kernel
theorem d_B_becomeRows_7 : decode b_B_becomeRows 7 = .ok (.putfield 31, 3) := by decide +kernel
theorem d_B_becomeRows_10 : decode b_B_becomeRows 10 = .ok (.aload_n 0, 1) := by decide +kernel
theorem d_B_becomeRows_11 : decode b_B_becomeRows 11 = .ok (.iconst 0, 1) := by decide +kernel
theorem d_B_becomeRows_12 : decode b_B_becomeRows 12 = .ok (.putfield 41, 3) := by decide +kernel
theorem d_B_becomeRows_15 : decode b_B_becomeRows 15 = .ok (.return_, 1) := by decide +kernel
theorem d_B_init_0 : decode b_B_init 0 = .ok (.aload_n 0, 1) := by decide +kernel
theorem d_B_init_1 : decode b_B_init 1 = .ok (.invokespecial 3, 3) := by decide +kernel
theorem d_B_init_4 : decode b_B_init 4 = .ok (.aload_n 0, 1) := by decide +kernel
theorem d_B_init_5 : decode b_B_init 5 = .ok (.bipush 60, 2) := by decide +kernel
theorem d_B_init_7 : decode b_B_init 7 = .ok (.newarray .int, 2) := by decide +kernel
theorem d_B_init_9 : decode b_B_init 9 = .ok (.putfield 9, 3) := by decide +kernel
theorem d_B_init_12 : decode b_B_init 12 = .ok (.aload_n 0, 1) := by decide +kernel
theorem d_B_init_13 : decode b_B_init 13 = .ok (.bipush 60, 2) := by decide +kernel
theorem d_B_init_15 : decode b_B_init 15 = .ok (.newarray .int, 2) := by decide +kernel
theorem d_B_init_17 : decode b_B_init 17 = .ok (.putfield 15, 3) := by decide +kernel
theorem d_B_init_20 : decode b_B_init 20 = .ok (.aload_n 0, 1) := by decide +kernel
theorem d_B_init_21 : decode b_B_init 21 = .ok (.bipush 60, 2) := by decide +kernel
theorem d_B_init_23 : decode b_B_init 23 = .ok (.newarray .int, 2) := by decide +kernel
theorem d_B_init_25 : decode b_B_init 25 = .ok (.putfield 18, 3) := by decide +kernel
theorem d_B_init_28 : decode b_B_init 28 = .ok (.aload_n 0, 1) := by decide +kernel
theorem d_B_init_29 : decode b_B_init 29 = .ok (.bipush 61, 2) := by decide +kernel
theorem d_B_init_31 : decode b_B_init 31 = .ok (.newarray .int, 2) := by decide +kernel
theorem d_B_init_33 : decode b_B_init 33 = .ok (.putfield 21, 3) := by decide +kernel
theorem d_B_init_36 : decode b_B_init 36 = .ok (.aload_n 0, 1) := by decide +kernel
theorem d_B_init_37 : decode b_B_init 37 = .ok (.sipush 300, 3) := by decide +kernel
theorem d_B_init_40 : decode b_B_init 40 = .ok (.newarray .int, 2) := by decide +kernel
theorem d_B_init_42 : decode b_B_init 42 = .ok (.putfield 24, 3) := by decide +kernel
theorem d_B_init_45 : decode b_B_init 45 = .ok (.aload_n 0, 1) := by decide +kernel
theorem d_B_init_46 : decode b_B_init 46 = .ok (.iconst 0, 1) := by decide +kernel
theorem d_B_init_47 : decode b_B_init 47 = .ok (.putfield 27, 3) := by decide +kernel
theorem d_B_init_50 : decode b_B_init 50 = .ok (.aload_n 0, 1) := by decide +kernel
theorem d_B_init_51 : decode b_B_init 51 = .ok (.iconst (-1), 1) := by decide +kernel
theorem d_B_init_52 : decode b_B_init 52 = .ok (.putfield 31, 3) := by decide +kernel
theorem d_B_init_55 : decode b_B_init 55 = .ok (.return_, 1) := by decide +kernel
theorem d_B_addInstruction_0 : decode b_B_addInstruction 0 = .ok (.aload_n 0, 1) := by decide +kernel
theorem d_B_addInstruction_1 : decode b_B_addInstruction 1 = .ok (.getfield 34, 3) := by decide +kernel
theorem d_B_addInstruction_4 : decode b_B_addInstruction 4 = .ok (.istore 4, 2) := by decide +kernel
theorem d_B_addInstruction_6 : decode b_B_addInstruction 6 = .ok (.iload 4, 2) := by decide +kernel
theorem d_B_addInstruction_8 : decode b_B_addInstruction 8 = .ok (.bipush 60, 2) := by decide +kernel
theorem d_B_addInstruction_10 : decode b_B_addInstruction 10 = .ok (.if_icmp .lt 4, 3) := by decide +kernel
theorem d_B_addInstruction_13 : decode b_B_addInstruction 13 = .ok (.return_, 1) := by decide +kernel
theorem d_B_addInstruction_14 : decode b_B_addInstruction 14 = .ok (.aload_n 0, 1) := by decide +kernel
theorem d_B_addInstruction_15 : decode b_B_addInstruction 15 = .ok (.getfield 9, 3) := by decide +kernel
theorem d_B_addInstruction_18 : decode b_B_addInstruction 18 = .ok (.iload 4, 2) := by decide +kernel
theorem d_B_addInstruction_20 : decode b_B_addInstruction 20 = .ok (.iload_n 1, 1) := by decide +kernel
theorem d_B_addInstruction_21 : decode b_B_addInstruction 21 = .ok (.iastore, 1) := by decide +kernel
theorem d_B_addInstruction_22 : decode b_B_addInstruction 22 = .ok (.aload_n 0, 1) := by decide +kernel
theorem d_B_addInstruction_23 : decode b_B_addInstruction 23 = .ok (.getfield 15, 3) := by decide +kernel
theorem d_B_addInstruction_26 : decode b_B_addInstruction 26 = .ok (.iload 4, 2) := by decide +kernel
theorem d_B_addInstruction_28 : decode b_B_addInstruction 28 = .ok (.iload_n 2, 1) := by decide +kernel
theorem d_B_addInstruction_29 : decode b_B_addInstruction 29 = .ok (.iastore, 1) := by decide +kernel
theorem d_B_addInstruction_30 : decode b_B_addInstruction 30 = .ok (.aload_n 0, 1) := by decide +kernel
theorem d_B_addInstruction_31 : decode b_B_addInstruction 31 = .ok (.getfield 18, 3) := by decide +kernel
theorem d_B_addInstruction_34 : decode b_B_addInstruction 34 = .ok (.iload 4, 2) := by decide +kernel
theorem d_B_addInstruction_36 : decode b_B_addInstruction 36 = .ok (.iload_n 3, 1) := by decide +kernel
theorem d_B_addInstruction_37 : decode b_B_addInstruction 37 = .ok (.iastore, 1) := by decide +kernel
theorem d_B_addInstruction_38 : decode b_B_addInstruction 38 = .ok (.aload_n 0, 1) := by decide +kernel
theorem d_B_addInstruction_39 : decode b_B_addInstruction 39 = .ok (.getfield 21, 3) := by decide +kernel
theorem d_B_addInstruction_42 : decode b_B_addInstruction 42 = .ok (.iload 4, 2) := by decide +kernel
theorem d_B_addInstruction_44 : decode b_B_addInstruction 44 = .ok (.iconst 1, 1) := by decide +kernel
theorem d_B_addInstruction_45 : decode b_B_addInstruction 45 = .ok (.iadd, 1) := by decide +kernel
theorem d_B_addInstruction_46 : decode b_B_addInstruction 46 = .ok (.aload_n 0, 1) := by decide +kernel
theorem d_B_addInstruction_47 : decode b_B_addInstruction 47 = .ok (.getfield 21, 3) := by decide +kernel
theorem d_B_addInstruction_50 : decode b_B_addInstruction 50 = .ok (.iload 4, 2) := by decide +kernel
theorem d_B_addInstruction_52 : decode b_B_addInstruction 52 = .ok (.iaload, 1) := by decide +kernel
theorem d_B_addInstruction_53 : decode b_B_addInstruction 53 = .ok (.iload_n 1, 1) := by decide +kernel
theorem d_B_addInstruction_54 : decode b_B_addInstruction 54 = .ok (.iload_n 3, 1) := by decide +kernel
theorem d_B_addInstruction_55 : decode b_B_addInstruction 55 = .ok (.invokestatic 37, 3) := by decide +kernel
theorem d_B_addInstruction_58 : decode b_B_addInstruction 58 = .ok (.iadd, 1) := by decide +kernel
theorem d_B_addInstruction_59 : decode b_B_addInstruction 59 = .ok (.iastore, 1) := by decide +kernel
theorem d_B_addInstruction_60 : decode b_B_addInstruction 60 = .ok (.aload_n 0, 1) := by decide +kernel
theorem d_B_addInstruction_61 : decode b_B_addInstruction 61 = .ok (.iload 4, 2) := by decide +kernel
theorem d_B_addInstruction_63 : decode b_B_addInstruction 63 = .ok (.iconst 1, 1) := by decide +kernel
theorem d_B_addInstruction_64 : decode b_B_addInstruction 64 = .ok (.iadd, 1) := by decide +kernel
theorem d_B_addInstruction_65 : decode b_B_addInstruction 65 = .ok (.putfield 34, 3) := by decide +kernel
theorem d_B_addInstruction_68 : decode b_B_addInstruction 68 = .ok (.return_, 1) := by decide +kernel
theorem d_B_bytesFor_0 : decode b_B_bytesFor 0 = .ok (.iload_n 0, 1) := by decide +kernel
theorem d_B_bytesFor_1 : decode b_B_bytesFor 1 = .ok (.lookupswitch 78 #[(0, 35), (6, 57), (7, 68)], 35) := by decide +kernel
theorem d_B_bytesFor_36 : decode b_B_bytesFor 36 = .ok (.iload_n 1, 1) := by decide +kernel
theorem d_B_bytesFor_37 : decode b_B_bytesFor 37 = .ok (.invokestatic 69, 3) := by decide +kernel
theorem d_B_bytesFor_40 : decode b_B_bytesFor 40 = .ok (.ifCond .eq 8, 3) := by decide +kernel
theorem d_B_bytesFor_43 : decode b_B_bytesFor 43 = .ok (.bipush 16, 2) := by decide +kernel
theorem d_B_bytesFor_45 : decode b_B_bytesFor 45 = .ok (.goto 4, 3) := by decide +kernel
theorem d_B_bytesFor_48 : decode b_B_bytesFor 48 = .ok (.iconst 3, 1) := by decide +kernel
theorem d_B_bytesFor_49 : decode b_B_bytesFor 49 = .ok (.invokestatic 48, 3) := by decide +kernel
theorem d_B_bytesFor_52 : decode b_B_bytesFor 52 = .ok (.iconst 2, 1) := by decide +kernel
theorem d_B_bytesFor_53 : decode b_B_bytesFor 53 = .ok (.invokestatic 48, 3) := by decide +kernel
theorem d_B_bytesFor_56 : decode b_B_bytesFor 56 = .ok (.iadd, 1) := by decide +kernel
theorem d_B_bytesFor_57 : decode b_B_bytesFor 57 = .ok (.ireturn, 1) := by decide +kernel
theorem d_B_bytesFor_58 : decode b_B_bytesFor 58 = .ok (.iconst 1, 1) := by decide +kernel
theorem d_B_bytesFor_59 : decode b_B_bytesFor 59 = .ok (.invokestatic 48, 3) := by decide +kernel
theorem d_B_bytesFor_62 : decode b_B_bytesFor 62 = .ok (.bipush 9, 2) := by decide +kernel
theorem d_B_bytesFor_64 : decode b_B_bytesFor 64 = .ok (.invokestatic 48, 3) := by decide +kernel
theorem d_B_bytesFor_67 : decode b_B_bytesFor 67 = .ok (.iadd, 1) := by decide +kernel
theorem d_B_bytesFor_68 : decode b_B_bytesFor 68 = .ok (.ireturn, 1) := by decide +kernel
theorem d_B_bytesFor_69 : decode b_B_bytesFor 69 = .ok (.iconst 1, 1) := by decide +kernel
theorem d_B_bytesFor_70 : decode b_B_bytesFor 70 = .ok (.invokestatic 48, 3) := by decide +kernel
theorem d_B_bytesFor_73 : decode b_B_bytesFor 73 = .ok (.iconst 2, 1) := by decide +kernel
theorem d_B_bytesFor_74 : decode b_B_bytesFor 74 = .ok (.invokestatic 48, 3) := by decide +kernel
theorem d_B_bytesFor_77 : decode b_B_bytesFor 77 = .ok (.iadd, 1) := by decide +kernel
theorem d_B_bytesFor_78 : decode b_B_bytesFor 78 = .ok (.ireturn, 1) := by decide +kernel
theorem d_B_bytesFor_79 : decode b_B_bytesFor 79 = .ok (.iconst 2, 1) := by decide +kernel
theorem d_B_bytesFor_80 : decode b_B_bytesFor 80 = .ok (.iconst 1, 1) := by decide +kernel
theorem d_B_bytesFor_81 : decode b_B_bytesFor 81 = .ok (.invokestatic 48, 3) := by decide +kernel
theorem d_B_bytesFor_84 : decode b_B_bytesFor 84 = .ok (.imul, 1) := by decide +kernel
theorem d_B_bytesFor_85 : decode b_B_bytesFor 85 = .ok (.iload_n 0, 1) := by decide +kernel
theorem d_B_bytesFor_86 : decode b_B_bytesFor 86 = .ok (.iconst 3, 1) := by decide +kernel
theorem d_B_bytesFor_87 : decode b_B_bytesFor 87 = .ok (.iadd, 1) := by decide +kernel
theorem d_B_bytesFor_88 : decode b_B_bytesFor 88 = .ok (.invokestatic 48, 3) := by decide +kernel
theorem d_B_bytesFor_91 : decode b_B_bytesFor 91 = .ok (.iadd, 1) := by decide +kernel
theorem d_B_bytesFor_92 : decode b_B_bytesFor 92 = .ok (.iconst 2, 1) := by decide +kernel
theorem d_B_bytesFor_93 : decode b_B_bytesFor 93 = .ok (.invokestatic 48, 3) := by decide +kernel
theorem d_B_bytesFor_96 : decode b_B_bytesFor 96 = .ok (.iadd, 1) := by decide +kernel
theorem d_B_bytesFor_97 : decode b_B_bytesFor 97 = .ok (.ireturn, 1) := by decide +kernel
theorem d_B_fitsOneByte_0 : decode b_B_fitsOneByte 0 = .ok (.iload_n 0, 1) := by decide +kernel
theorem d_B_fitsOneByte_1 : decode b_B_fitsOneByte 1 = .ok (.bipush (-128), 2) := by decide +kernel
theorem d_B_fitsOneByte_3 : decode b_B_fitsOneByte 3 = .ok (.if_icmp .lt 13, 3) := by decide +kernel
theorem d_B_fitsOneByte_6 : decode b_B_fitsOneByte 6 = .ok (.iload_n 0, 1) := by decide +kernel
theorem d_B_fitsOneByte_7 : decode b_B_fitsOneByte 7 = .ok (.bipush 127, 2) := by decide +kernel
theorem d_B_fitsOneByte_9 : decode b_B_fitsOneByte 9 = .ok (.if_icmp .gt 7, 3) := by decide +kernel
theorem d_B_fitsOneByte_12 : decode b_B_fitsOneByte 12 = .ok (.iconst 1, 1) := by decide +kernel
theorem d_B_fitsOneByte_13 : decode b_B_fitsOneByte 13 = .ok (.goto 4, 3) := by decide +kernel
theorem d_B_fitsOneByte_16 : decode b_B_fitsOneByte 16 = .ok (.iconst 0, 1) := by decide +kernel
theorem d_B_fitsOneByte_17 : decode b_B_fitsOneByte 17 = .ok (.ireturn, 1) := by decide +kernel
theorem d_B_canBeMade_0 : decode b_B_canBeMade 0 = .ok (.aload_n 0, 1) := by decide +kernel
theorem d_B_canBeMade_1 : decode b_B_canBeMade 1 = .ok (.aload_n 0, 1) := by decide +kernel
theorem d_B_canBeMade_2 : decode b_B_canBeMade 2 = .ok (.getfield 34, 3) := by decide +kernel
theorem d_B_canBeMade_5 : decode b_B_canBeMade 5 = .ok (.invokevirtual 44, 3) := by decide +kernel
theorem d_B_canBeMade_8 : decode b_B_canBeMade 8 = .ok (.bipush 10, 2) := by decide +kernel
theorem d_B_canBeMade_10 : decode b_B_canBeMade 10 = .ok (.invokestatic 48, 3) := by decide +kernel
theorem d_B_canBeMade_13 : decode b_B_canBeMade 13 = .ok (.iadd, 1) := by decide +kernel
theorem d_B_canBeMade_14 : decode b_B_canBeMade 14 = .ok (.sipush 300, 3) := by decide +kernel
theorem d_B_canBeMade_17 : decode b_B_canBeMade 17 = .ok (.if_icmp .gt 7, 3) := by decide +kernel
theorem d_B_canBeMade_20 : decode b_B_canBeMade 20 = .ok (.iconst 1, 1) := by decide +kernel
theorem d_B_canBeMade_21 : decode b_B_canBeMade 21 = .ok (.goto 4, 3) := by decide +kernel
theorem d_B_canBeMade_24 : decode b_B_canBeMade 24 = .ok (.iconst 0, 1) := by decide +kernel
theorem d_B_canBeMade_25 : decode b_B_canBeMade 25 = .ok (.ireturn, 1) := by decide +kernel
theorem d_B_startOf_0 : decode b_B_startOf 0 = .ok (.iconst 0, 1) := by decide +kernel
theorem d_B_startOf_1 : decode b_B_startOf 1 = .ok (.iload_n 1, 1) := by decide +kernel
theorem d_B_startOf_2 : decode b_B_startOf 2 = .ok (.aload_n 0, 1) := by decide +kernel
theorem d_B_startOf_3 : decode b_B_startOf 3 = .ok (.getfield 34, 3) := by decide +kernel
theorem d_B_startOf_6 : decode b_B_startOf 6 = .ok (.invokestatic 73, 3) := by decide +kernel
theorem d_B_startOf_9 : decode b_B_startOf 9 = .ok (.invokestatic 78, 3) := by decide +kernel
theorem d_B_startOf_12 : decode b_B_startOf 12 = .ok (.istore_n 2, 1) := by decide +kernel
theorem d_B_startOf_13 : decode b_B_startOf 13 = .ok (.iload_n 2, 1) := by decide +kernel
theorem d_B_startOf_14 : decode b_B_startOf 14 = .ok (.aload_n 0, 1) := by decide +kernel
theorem d_B_startOf_15 : decode b_B_startOf 15 = .ok (.getfield 21, 3) := by decide +kernel
theorem d_B_startOf_18 : decode b_B_startOf 18 = .ok (.arraylength, 1) := by decide +kernel
theorem d_B_startOf_19 : decode b_B_startOf 19 = .ok (.if_icmp .ge 12, 3) := by decide +kernel
theorem d_B_startOf_22 : decode b_B_startOf 22 = .ok (.aload_n 0, 1) := by decide +kernel
theorem d_B_startOf_23 : decode b_B_startOf 23 = .ok (.getfield 21, 3) := by decide +kernel
theorem d_B_startOf_26 : decode b_B_startOf 26 = .ok (.iload_n 2, 1) := by decide +kernel
theorem d_B_startOf_27 : decode b_B_startOf 27 = .ok (.iaload, 1) := by decide +kernel
theorem d_B_startOf_28 : decode b_B_startOf 28 = .ok (.goto 4, 3) := by decide +kernel
theorem d_B_startOf_31 : decode b_B_startOf 31 = .ok (.iconst 0, 1) := by decide +kernel
theorem d_B_startOf_32 : decode b_B_startOf 32 = .ok (.ireturn, 1) := by decide +kernel
theorem d_B_writeBytes_0 : decode b_B_writeBytes 0 = .ok (.aload_n 0, 1) := by decide +kernel
theorem d_B_writeBytes_1 : decode b_B_writeBytes 1 = .ok (.iconst 0, 1) := by decide +kernel
theorem d_B_writeBytes_2 : decode b_B_writeBytes 2 = .ok (.putfield 41, 3) := by decide +kernel
theorem d_B_writeBytes_5 : decode b_B_writeBytes 5 = .ok (.iconst 0, 1) := by decide +kernel
theorem d_B_writeBytes_6 : decode b_B_writeBytes 6 = .ok (.istore_n 1, 1) := by decide +kernel
theorem d_B_writeBytes_7 : decode b_B_writeBytes 7 = .ok (.iload_n 1, 1) := by decide +kernel
theorem d_B_writeBytes_8 : decode b_B_writeBytes 8 = .ok (.aload_n 0, 1) := by decide +kernel
theorem d_B_writeBytes_9 : decode b_B_writeBytes 9 = .ok (.getfield 34, 3) := by decide +kernel
theorem d_B_writeBytes_12 : decode b_B_writeBytes 12 = .ok (.if_icmp .ge 37, 3) := by decide +kernel
theorem d_B_writeBytes_15 : decode b_B_writeBytes 15 = .ok (.iload_n 1, 1) := by decide +kernel
theorem d_B_writeBytes_16 : decode b_B_writeBytes 16 = .ok (.bipush 60, 2) := by decide +kernel
theorem d_B_writeBytes_18 : decode b_B_writeBytes 18 = .ok (.if_icmp .ge 31, 3) := by decide +kernel
theorem d_B_writeBytes_21 : decode b_B_writeBytes 21 = .ok (.aload_n 0, 1) := by decide +kernel
theorem d_B_writeBytes_22 : decode b_B_writeBytes 22 = .ok (.aload_n 0, 1) := by decide +kernel
theorem d_B_writeBytes_23 : decode b_B_writeBytes 23 = .ok (.getfield 9, 3) := by decide +kernel
theorem d_B_writeBytes_26 : decode b_B_writeBytes 26 = .ok (.iload_n 1, 1) := by decide +kernel
theorem d_B_writeBytes_27 : decode b_B_writeBytes 27 = .ok (.iaload, 1) := by decide +kernel
theorem d_B_writeBytes_28 : decode b_B_writeBytes 28 = .ok (.aload_n 0, 1) := by decide +kernel
theorem d_B_writeBytes_29 : decode b_B_writeBytes 29 = .ok (.getfield 15, 3) := by decide +kernel
theorem d_B_writeBytes_32 : decode b_B_writeBytes 32 = .ok (.iload_n 1, 1) := by decide +kernel
theorem d_B_writeBytes_33 : decode b_B_writeBytes 33 = .ok (.iaload, 1) := by decide +kernel
theorem d_B_writeBytes_34 : decode b_B_writeBytes 34 = .ok (.aload_n 0, 1) := by decide +kernel
theorem d_B_writeBytes_35 : decode b_B_writeBytes 35 = .ok (.getfield 18, 3) := by decide +kernel
theorem d_B_writeBytes_38 : decode b_B_writeBytes 38 = .ok (.iload_n 1, 1) := by decide +kernel
theorem d_B_writeBytes_39 : decode b_B_writeBytes 39 = .ok (.iaload, 1) := by decide +kernel
theorem d_B_writeBytes_40 : decode b_B_writeBytes 40 = .ok (.invokevirtual 51, 3) := by decide +kernel
theorem d_B_writeBytes_43 : decode b_B_writeBytes 43 = .ok (.iinc 1 1, 3) := by decide +kernel
theorem d_B_writeBytes_46 : decode b_B_writeBytes 46 = .ok (.goto (-39), 3) := by decide +kernel
theorem d_B_writeBytes_49 : decode b_B_writeBytes 49 = .ok (.aload_n 0, 1) := by decide +kernel
theorem d_B_writeBytes_50 : decode b_B_writeBytes 50 = .ok (.bipush 10, 2) := by decide +kernel
theorem d_B_writeBytes_52 : decode b_B_writeBytes 52 = .ok (.invokevirtual 55, 3) := by decide +kernel
theorem d_B_writeBytes_55 : decode b_B_writeBytes 55 = .ok (.return_, 1) := by decide +kernel
theorem d_B_writeInstruction_0 : decode b_B_writeInstruction 0 = .ok (.iload_n 1, 1) := by decide +kernel
theorem d_B_writeInstruction_1 : decode b_B_writeInstruction 1 = .ok (.lookupswitch 82 #[(0, 35), (6, 49), (7, 67)], 35) := by decide +kernel
theorem d_B_writeInstruction_36 : decode b_B_writeInstruction 36 = .ok (.aload_n 0, 1) := by decide +kernel
theorem d_B_writeInstruction_37 : decode b_B_writeInstruction 37 = .ok (.iload_n 3, 1) := by decide +kernel
theorem d_B_writeInstruction_38 : decode b_B_writeInstruction 38 = .ok (.invokevirtual 59, 3) := by decide +kernel
theorem d_B_writeInstruction_41 : decode b_B_writeInstruction 41 = .ok (.aload_n 0, 1) := by decide +kernel
theorem d_B_writeInstruction_42 : decode b_B_writeInstruction 42 = .ok (.iconst 2, 1) := by decide +kernel
theorem d_B_writeInstruction_43 : decode b_B_writeInstruction 43 = .ok (.iload_n 2, 1) := by decide +kernel
theorem d_B_writeInstruction_44 : decode b_B_writeInstruction 44 = .ok (.invokevirtual 62, 3) := by decide +kernel
theorem d_B_writeInstruction_47 : decode b_B_writeInstruction 47 = .ok (.goto 61, 3) := by decide +kernel
theorem d_B_writeInstruction_50 : decode b_B_writeInstruction 50 = .ok (.aload_n 0, 1) := by decide +kernel
theorem d_B_writeInstruction_51 : decode b_B_writeInstruction 51 = .ok (.iconst 1, 1) := by decide +kernel
theorem d_B_writeInstruction_52 : decode b_B_writeInstruction 52 = .ok (.iload_n 2, 1) := by decide +kernel
theorem d_B_writeInstruction_53 : decode b_B_writeInstruction 53 = .ok (.invokevirtual 62, 3) := by decide +kernel
theorem d_B_writeInstruction_56 : decode b_B_writeInstruction 56 = .ok (.aload_n 0, 1) := by decide +kernel
theorem d_B_writeInstruction_57 : decode b_B_writeInstruction 57 = .ok (.aload_n 0, 1) := by decide +kernel
theorem d_B_writeInstruction_58 : decode b_B_writeInstruction 58 = .ok (.iload_n 3, 1) := by decide +kernel
theorem d_B_writeInstruction_59 : decode b_B_writeInstruction 59 = .ok (.invokevirtual 44, 3) := by decide +kernel
theorem d_B_writeInstruction_62 : decode b_B_writeInstruction 62 = .ok (.invokevirtual 66, 3) := by decide +kernel
theorem d_B_writeInstruction_65 : decode b_B_writeInstruction 65 = .ok (.goto 43, 3) := by decide +kernel
theorem d_B_writeInstruction_68 : decode b_B_writeInstruction 68 = .ok (.aload_n 0, 1) := by decide +kernel
theorem d_B_writeInstruction_69 : decode b_B_writeInstruction 69 = .ok (.iconst 1, 1) := by decide +kernel
theorem d_B_writeInstruction_70 : decode b_B_writeInstruction 70 = .ok (.iload_n 3, 1) := by decide +kernel
theorem d_B_writeInstruction_71 : decode b_B_writeInstruction 71 = .ok (.invokevirtual 62, 3) := by decide +kernel
theorem d_B_writeInstruction_74 : decode b_B_writeInstruction 74 = .ok (.aload_n 0, 1) := by decide +kernel
theorem d_B_writeInstruction_75 : decode b_B_writeInstruction 75 = .ok (.iconst 2, 1) := by decide +kernel
theorem d_B_writeInstruction_76 : decode b_B_writeInstruction 76 = .ok (.iload_n 2, 1) := by decide +kernel
theorem d_B_writeInstruction_77 : decode b_B_writeInstruction 77 = .ok (.invokevirtual 62, 3) := by decide +kernel
theorem d_B_writeInstruction_80 : decode b_B_writeInstruction 80 = .ok (.goto 28, 3) := by decide +kernel
theorem d_B_writeInstruction_83 : decode b_B_writeInstruction 83 = .ok (.aload_n 0, 1) := by decide +kernel
theorem d_B_writeInstruction_84 : decode b_B_writeInstruction 84 = .ok (.iconst 1, 1) := by decide +kernel
theorem d_B_writeInstruction_85 : decode b_B_writeInstruction 85 = .ok (.iload_n 2, 1) := by decide +kernel
theorem d_B_writeInstruction_86 : decode b_B_writeInstruction 86 = .ok (.invokevirtual 62, 3) := by decide +kernel
theorem d_B_writeInstruction_89 : decode b_B_writeInstruction 89 = .ok (.aload_n 0, 1) := by decide +kernel
theorem d_B_writeInstruction_90 : decode b_B_writeInstruction 90 = .ok (.iconst 1, 1) := by decide +kernel
theorem d_B_writeInstruction_91 : decode b_B_writeInstruction 91 = .ok (.iload_n 3, 1) := by decide +kernel
theorem d_B_writeInstruction_92 : decode b_B_writeInstruction 92 = .ok (.invokevirtual 62, 3) := by decide +kernel
theorem d_B_writeInstruction_95 : decode b_B_writeInstruction 95 = .ok (.aload_n 0, 1) := by decide +kernel
theorem d_B_writeInstruction_96 : decode b_B_writeInstruction 96 = .ok (.iload_n 1, 1) := by decide +kernel
theorem d_B_writeInstruction_97 : decode b_B_writeInstruction 97 = .ok (.iconst 3, 1) := by decide +kernel
theorem d_B_writeInstruction_98 : decode b_B_writeInstruction 98 = .ok (.iadd, 1) := by decide +kernel
theorem d_B_writeInstruction_99 : decode b_B_writeInstruction 99 = .ok (.invokevirtual 55, 3) := by decide +kernel
theorem d_B_writeInstruction_102 : decode b_B_writeInstruction 102 = .ok (.aload_n 0, 1) := by decide +kernel
theorem d_B_writeInstruction_103 : decode b_B_writeInstruction 103 = .ok (.iconst 2, 1) := by decide +kernel
theorem d_B_writeInstruction_104 : decode b_B_writeInstruction 104 = .ok (.iload_n 2, 1) := by decide +kernel
theorem d_B_writeInstruction_105 : decode b_B_writeInstruction 105 = .ok (.invokevirtual 62, 3) := by decide +kernel
theorem d_B_writeInstruction_108 : decode b_B_writeInstruction 108 = .ok (.return_, 1) := by decide +kernel
theorem d_B_writePush_0 : decode b_B_writePush 0 = .ok (.iload_n 1, 1) := by decide +kernel
theorem d_B_writePush_1 : decode b_B_writePush 1 = .ok (.invokestatic 69, 3) := by decide +kernel
theorem d_B_writePush_4 : decode b_B_writePush 4 = .ok (.ifCond .eq 15, 3) := by decide +kernel
theorem d_B_writePush_7 : decode b_B_writePush 7 = .ok (.aload_n 0, 1) := by decide +kernel
theorem d_B_writePush_8 : decode b_B_writePush 8 = .ok (.bipush 16, 2) := by decide +kernel
theorem d_B_writePush_10 : decode b_B_writePush 10 = .ok (.invokevirtual 55, 3) := by decide +kernel
theorem d_B_writePush_13 : decode b_B_writePush 13 = .ok (.aload_n 0, 1) := by decide +kernel
theorem d_B_writePush_14 : decode b_B_writePush 14 = .ok (.iload_n 1, 1) := by decide +kernel
theorem d_B_writePush_15 : decode b_B_writePush 15 = .ok (.invokevirtual 55, 3) := by decide +kernel
theorem d_B_writePush_18 : decode b_B_writePush 18 = .ok (.return_, 1) := by decide +kernel
theorem d_B_writePush_19 : decode b_B_writePush 19 = .ok (.aload_n 0, 1) := by decide +kernel
theorem d_B_writePush_20 : decode b_B_writePush 20 = .ok (.iconst 3, 1) := by decide +kernel
theorem d_B_writePush_21 : decode b_B_writePush 21 = .ok (.invokevirtual 55, 3) := by decide +kernel
theorem d_B_writePush_24 : decode b_B_writePush 24 = .ok (.aload_n 0, 1) := by decide +kernel
theorem d_B_writePush_25 : decode b_B_writePush 25 = .ok (.iload_n 1, 1) := by decide +kernel
theorem d_B_writePush_26 : decode b_B_writePush 26 = .ok (.bipush 24, 2) := by decide +kernel
theorem d_B_writePush_28 : decode b_B_writePush 28 = .ok (.ishr, 1) := by decide +kernel
theorem d_B_writePush_29 : decode b_B_writePush 29 = .ok (.invokevirtual 55, 3) := by decide +kernel
theorem d_B_writePush_32 : decode b_B_writePush 32 = .ok (.aload_n 0, 1) := by decide +kernel
theorem d_B_writePush_33 : decode b_B_writePush 33 = .ok (.iload_n 1, 1) := by decide +kernel
theorem d_B_writePush_34 : decode b_B_writePush 34 = .ok (.bipush 16, 2) := by decide +kernel
theorem d_B_writePush_36 : decode b_B_writePush 36 = .ok (.ishr, 1) := by decide +kernel
theorem d_B_writePush_37 : decode b_B_writePush 37 = .ok (.invokevirtual 55, 3) := by decide +kernel
theorem d_B_writePush_40 : decode b_B_writePush 40 = .ok (.aload_n 0, 1) := by decide +kernel
theorem d_B_writePush_41 : decode b_B_writePush 41 = .ok (.iload_n 1, 1) := by decide +kernel
theorem d_B_writePush_42 : decode b_B_writePush 42 = .ok (.bipush 8, 2) := by decide +kernel
theorem d_B_writePush_44 : decode b_B_writePush 44 = .ok (.ishr, 1) := by decide +kernel
theorem d_B_writePush_45 : decode b_B_writePush 45 = .ok (.invokevirtual 55, 3) := by decide +kernel
theorem d_B_writePush_48 : decode b_B_writePush 48 = .ok (.aload_n 0, 1) := by decide +kernel
theorem d_B_writePush_49 : decode b_B_writePush 49 = .ok (.iload_n 1, 1) := by decide +kernel
theorem d_B_writePush_50 : decode b_B_writePush 50 = .ok (.invokevirtual 55, 3) := by decide +kernel
theorem d_B_writePush_53 : decode b_B_writePush 53 = .ok (.return_, 1) := by decide +kernel
theorem d_B_append_0 : decode b_B_append 0 = .ok (.aload_n 0, 1) := by decide +kernel
theorem d_B_append_1 : decode b_B_append 1 = .ok (.getfield 41, 3) := by decide +kernel
theorem d_B_append_4 : decode b_B_append 4 = .ok (.sipush 300, 3) := by decide +kernel
theorem d_B_append_7 : decode b_B_append 7 = .ok (.if_icmp .ge 27, 3) := by decide +kernel
theorem d_B_append_10 : decode b_B_append 10 = .ok (.aload_n 0, 1) := by decide +kernel
theorem d_B_append_11 : decode b_B_append 11 = .ok (.getfield 24, 3) := by decide +kernel
theorem d_B_append_14 : decode b_B_append 14 = .ok (.aload_n 0, 1) := by decide +kernel
theorem d_B_append_15 : decode b_B_append 15 = .ok (.getfield 41, 3) := by decide +kernel
theorem d_B_append_18 : decode b_B_append 18 = .ok (.iload_n 1, 1) := by decide +kernel
theorem d_B_append_19 : decode b_B_append 19 = .ok (.sipush 255, 3) := by decide +kernel
theorem d_B_append_22 : decode b_B_append 22 = .ok (.iand, 1) := by decide +kernel
theorem d_B_append_23 : decode b_B_append 23 = .ok (.iastore, 1) := by decide +kernel
theorem d_B_append_24 : decode b_B_append 24 = .ok (.aload_n 0, 1) := by decide +kernel
theorem d_B_append_25 : decode b_B_append 25 = .ok (.dup, 1) := by decide +kernel
theorem d_B_append_26 : decode b_B_append 26 = .ok (.getfield 41, 3) := by decide +kernel
theorem d_B_append_29 : decode b_B_append 29 = .ok (.iconst 1, 1) := by decide +kernel
theorem d_B_append_30 : decode b_B_append 30 = .ok (.iadd, 1) := by decide +kernel
theorem d_B_append_31 : decode b_B_append 31 = .ok (.putfield 41, 3) := by decide +kernel
theorem d_B_append_34 : decode b_B_append 34 = .ok (.return_, 1) := by decide +kernel
theorem d_B_writeWithRegister_0 : decode b_B_writeWithRegister 0 = .ok (.aload_n 0, 1) := by decide +kernel
theorem d_B_writeWithRegister_1 : decode b_B_writeWithRegister 1 = .ok (.iload_n 1, 1) := by decide +kernel
theorem d_B_writeWithRegister_2 : decode b_B_writeWithRegister 2 = .ok (.invokevirtual 55, 3) := by decide +kernel
theorem d_B_writeWithRegister_5 : decode b_B_writeWithRegister 5 = .ok (.aload_n 0, 1) := by decide +kernel
theorem d_B_writeWithRegister_6 : decode b_B_writeWithRegister 6 = .ok (.iload_n 2, 1) := by decide +kernel
theorem d_B_writeWithRegister_7 : decode b_B_writeWithRegister 7 = .ok (.invokevirtual 55, 3) := by decide +kernel
theorem d_B_writeWithRegister_10 : decode b_B_writeWithRegister 10 = .ok (.return_, 1) := by decide +kernel
theorem d_B_writeBranch_0 : decode b_B_writeBranch 0 = .ok (.aload_n 0, 1) := by decide +kernel
theorem d_B_writeBranch_1 : decode b_B_writeBranch 1 = .ok (.bipush 9, 2) := by decide +kernel
theorem d_B_writeBranch_3 : decode b_B_writeBranch 3 = .ok (.invokevirtual 55, 3) := by decide +kernel
theorem d_B_writeBranch_6 : decode b_B_writeBranch 6 = .ok (.aload_n 0, 1) := by decide +kernel
theorem d_B_writeBranch_7 : decode b_B_writeBranch 7 = .ok (.iload_n 1, 1) := by decide +kernel
theorem d_B_writeBranch_8 : decode b_B_writeBranch 8 = .ok (.bipush 8, 2) := by decide +kernel
theorem d_B_writeBranch_10 : decode b_B_writeBranch 10 = .ok (.ishr, 1) := by decide +kernel
theorem d_B_writeBranch_11 : decode b_B_writeBranch 11 = .ok (.invokevirtual 55, 3) := by decide +kernel
theorem d_B_writeBranch_14 : decode b_B_writeBranch 14 = .ok (.aload_n 0, 1) := by decide +kernel
theorem d_B_writeBranch_15 : decode b_B_writeBranch 15 = .ok (.iload_n 1, 1) := by decide +kernel
theorem d_B_writeBranch_16 : decode b_B_writeBranch 16 = .ok (.invokevirtual 55, 3) := by decide +kernel
theorem d_B_writeBranch_19 : decode b_B_writeBranch 19 = .ok (.return_, 1) := by decide +kernel
theorem d_B_overwrite_0 : decode b_B_overwrite 0 = .ok (.aload_n 0, 1) := by decide +kernel
theorem d_B_overwrite_1 : decode b_B_overwrite 1 = .ok (.iload_n 1, 1) := by decide +kernel
theorem d_B_overwrite_2 : decode b_B_overwrite 2 = .ok (.invokevirtual 81, 3) := by decide +kernel
theorem d_B_overwrite_5 : decode b_B_overwrite 5 = .ok (.ifCond .eq 10, 3) := by decide +kernel
theorem d_B_overwrite_8 : decode b_B_overwrite 8 = .ok (.aload_n 0, 1) := by decide +kernel
theorem d_B_overwrite_9 : decode b_B_overwrite 9 = .ok (.getfield 24, 3) := by decide +kernel
theorem d_B_overwrite_12 : decode b_B_overwrite 12 = .ok (.iload_n 1, 1) := by decide +kernel
theorem d_B_overwrite_13 : decode b_B_overwrite 13 = .ok (.iload_n 2, 1) := by decide +kernel
theorem d_B_overwrite_14 : decode b_B_overwrite 14 = .ok (.iastore, 1) := by decide +kernel
theorem d_B_overwrite_15 : decode b_B_overwrite 15 = .ok (.return_, 1) := by decide +kernel
theorem d_B_readFour_0 : decode b_B_readFour 0 = .ok (.aload_n 0, 1) := by decide +kernel
theorem d_B_readFour_1 : decode b_B_readFour 1 = .ok (.iload_n 1, 1) := by decide +kernel
theorem d_B_readFour_2 : decode b_B_readFour 2 = .ok (.invokevirtual 87, 3) := by decide +kernel
theorem d_B_readFour_5 : decode b_B_readFour 5 = .ok (.bipush 16, 2) := by decide +kernel
theorem d_B_readFour_7 : decode b_B_readFour 7 = .ok (.ishl, 1) := by decide +kernel
theorem d_B_readFour_8 : decode b_B_readFour 8 = .ok (.aload_n 0, 1) := by decide +kernel
theorem d_B_readFour_9 : decode b_B_readFour 9 = .ok (.iload_n 1, 1) := by decide +kernel
theorem d_B_readFour_10 : decode b_B_readFour 10 = .ok (.iconst 2, 1) := by decide +kernel
theorem d_B_readFour_11 : decode b_B_readFour 11 = .ok (.iadd, 1) := by decide +kernel
theorem d_B_readFour_12 : decode b_B_readFour 12 = .ok (.invokevirtual 87, 3) := by decide +kernel
theorem d_B_readFour_15 : decode b_B_readFour 15 = .ok (.ior, 1) := by decide +kernel
theorem d_B_readFour_16 : decode b_B_readFour 16 = .ok (.ireturn, 1) := by decide +kernel
