theorem d_M_init_0 : decode b_M_init 0 = .ok (.aload_n 0, 1) := by decide +kernel
theorem d_M_init_1 : decode b_M_init 1 = .ok (.invokespecial 3, 3) := by decide +kernel
theorem d_M_init_4 : decode b_M_init 4 = .ok (.aload_n 0, 1) := by decide +kernel
theorem d_M_init_5 : decode b_M_init 5 = .ok (.new 9, 3) := by decide +kernel
theorem d_M_init_8 : decode b_M_init 8 = .ok (.dup, 1) := by decide +kernel
theorem d_M_init_9 : decode b_M_init 9 = .ok (.invokespecial 11, 3) := by decide +kernel
theorem d_M_init_12 : decode b_M_init 12 = .ok (.putfield 12, 3) := by decide +kernel
theorem d_M_init_15 : decode b_M_init 15 = .ok (.aload_n 0, 1) := by decide +kernel
theorem d_M_init_16 : decode b_M_init 16 = .ok (.new 16, 3) := by decide +kernel
theorem d_M_init_19 : decode b_M_init 19 = .ok (.dup, 1) := by decide +kernel
theorem d_M_init_20 : decode b_M_init 20 = .ok (.invokespecial 18, 3) := by decide +kernel
theorem d_M_init_23 : decode b_M_init 23 = .ok (.putfield 19, 3) := by decide +kernel
theorem d_M_init_26 : decode b_M_init 26 = .ok (.aload_n 0, 1) := by decide +kernel
theorem d_M_init_27 : decode b_M_init 27 = .ok (.new 23, 3) := by decide +kernel
theorem d_M_init_30 : decode b_M_init 30 = .ok (.dup, 1) := by decide +kernel
theorem d_M_init_31 : decode b_M_init 31 = .ok (.invokespecial 25, 3) := by decide +kernel
theorem d_M_init_34 : decode b_M_init 34 = .ok (.putfield 26, 3) := by decide +kernel
theorem d_M_init_37 : decode b_M_init 37 = .ok (.aload_n 0, 1) := by decide +kernel
theorem d_M_init_38 : decode b_M_init 38 = .ok (.new 23, 3) := by decide +kernel
theorem d_M_init_41 : decode b_M_init 41 = .ok (.dup, 1) := by decide +kernel
theorem d_M_init_42 : decode b_M_init 42 = .ok (.invokespecial 25, 3) := by decide +kernel
theorem d_M_init_45 : decode b_M_init 45 = .ok (.putfield 30, 3) := by decide +kernel
theorem d_M_init_48 : decode b_M_init 48 = .ok (.aload_n 0, 1) := by decide +kernel
theorem d_M_init_49 : decode b_M_init 49 = .ok (.new 23, 3) := by decide +kernel
theorem d_M_init_52 : decode b_M_init 52 = .ok (.dup, 1) := by decide +kernel
theorem d_M_init_53 : decode b_M_init 53 = .ok (.invokespecial 25, 3) := by decide +kernel
theorem d_M_init_56 : decode b_M_init 56 = .ok (.putfield 33, 3) := by decide +kernel
theorem d_M_init_59 : decode b_M_init 59 = .ok (.aload_n 0, 1) := by decide +kernel
theorem d_M_init_60 : decode b_M_init 60 = .ok (.iconst 1, 1) := by decide +kernel
theorem d_M_init_61 : decode b_M_init 61 = .ok (.iload_n 1, 1) := by decide +kernel
theorem d_M_init_62 : decode b_M_init 62 = .ok (.iconst 1, 1) := by decide +kernel
theorem d_M_init_63 : decode b_M_init 63 = .ok (.isub, 1) := by decide +kernel
theorem d_M_init_64 : decode b_M_init 64 = .ok (.bipush 8, 2) := by decide +kernel
theorem d_M_init_66 : decode b_M_init 66 = .ok (.invokestatic 36, 3) := by decide +kernel
theorem d_M_init_69 : decode b_M_init 69 = .ok (.iadd, 1) := by decide +kernel
theorem d_M_init_70 : decode b_M_init 70 = .ok (.putfield 42, 3) := by decide +kernel
theorem d_M_init_73 : decode b_M_init 73 = .ok (.return_, 1) := by decide +kernel
theorem d_M_border_0 : decode b_M_border 0 = .ok (.iconst 0, 1) := by decide +kernel
theorem d_M_border_1 : decode b_M_border 1 = .ok (.istore_n 1, 1) := by decide +kernel
theorem d_M_border_2 : decode b_M_border 2 = .ok (.iconst 0, 1) := by decide +kernel
theorem d_M_border_3 : decode b_M_border 3 = .ok (.istore_n 2, 1) := by decide +kernel
theorem d_M_border_4 : decode b_M_border 4 = .ok (.iload_n 2, 1) := by decide +kernel
theorem d_M_border_5 : decode b_M_border 5 = .ok (.aload_n 0, 1) := by decide +kernel
theorem d_M_border_6 : decode b_M_border 6 = .ok (.getfield 12, 3) := by decide +kernel
theorem d_M_border_9 : decode b_M_border 9 = .ok (.invokevirtual 46, 3) := by decide +kernel
theorem d_M_border_12 : decode b_M_border 12 = .ok (.if_icmp .ge 68, 3) := by decide +kernel
theorem d_M_border_15 : decode b_M_border 15 = .ok (.aload_n 0, 1) := by decide +kernel
theorem d_M_border_16 : decode b_M_border 16 = .ok (.getfield 12, 3) := by decide +kernel
theorem d_M_border_19 : decode b_M_border 19 = .ok (.iload_n 2, 1) := by decide +kernel
theorem d_M_border_20 : decode b_M_border 20 = .ok (.invokevirtual 134, 3) := by decide +kernel
theorem d_M_border_23 : decode b_M_border 23 = .ok (.checkcast 57, 3) := by decide +kernel
theorem d_M_border_26 : decode b_M_border 26 = .ok (.astore_n 3, 1) := by decide +kernel
theorem d_M_border_27 : decode b_M_border 27 = .ok (.aload_n 3, 1) := by decide +kernel
theorem d_M_border_28 : decode b_M_border 28 = .ok (.getfield 100, 3) := by decide +kernel
theorem d_M_border_31 : decode b_M_border 31 = .ok (.iconst 1, 1) := by decide +kernel
theorem d_M_border_32 : decode b_M_border 32 = .ok (.if_icmp .eq 6, 3) := by decide +kernel
theorem d_M_border_35 : decode b_M_border 35 = .ok (.goto 39, 3) := by decide +kernel
theorem d_M_border_38 : decode b_M_border 38 = .ok (.aload_n 0, 1) := by decide +kernel
theorem d_M_border_39 : decode b_M_border 39 = .ok (.getfield 19, 3) := by decide +kernel
theorem d_M_border_42 : decode b_M_border 42 = .ok (.aload_n 3, 1) := by decide +kernel
theorem d_M_border_43 : decode b_M_border 43 = .ok (.invokevirtual 130, 3) := by decide +kernel
theorem d_M_border_46 : decode b_M_border 46 = .ok (.ifCond .ne 14, 3) := by decide +kernel
theorem d_M_border_49 : decode b_M_border 49 = .ok (.aload_n 3, 1) := by decide +kernel
theorem d_M_border_50 : decode b_M_border 50 = .ok (.iconst 2, 1) := by decide +kernel
theorem d_M_border_51 : decode b_M_border 51 = .ok (.putfield 100, 3) := by decide +kernel
theorem d_M_border_54 : decode b_M_border 54 = .ok (.iinc 1 1, 3) := by decide +kernel
theorem d_M_border_57 : decode b_M_border 57 = .ok (.goto 17, 3) := by decide +kernel
theorem d_M_border_60 : decode b_M_border 60 = .ok (.aload_n 3, 1) := by decide +kernel
theorem d_M_border_61 : decode b_M_border 61 = .ok (.invokevirtual 90, 3) := by decide +kernel
theorem d_M_border_64 : decode b_M_border 64 = .ok (.aload_n 0, 1) := by decide +kernel
theorem d_M_border_65 : decode b_M_border 65 = .ok (.dup, 1) := by decide +kernel
theorem d_M_border_66 : decode b_M_border 66 = .ok (.getfield 138, 3) := by decide +kernel
theorem d_M_border_69 : decode b_M_border 69 = .ok (.iconst 1, 1) := by decide +kernel
theorem d_M_border_70 : decode b_M_border 70 = .ok (.iadd, 1) := by decide +kernel
theorem d_M_border_71 : decode b_M_border 71 = .ok (.putfield 138, 3) := by decide +kernel
theorem d_M_border_74 : decode b_M_border 74 = .ok (.iinc 2 1, 3) := by decide +kernel
theorem d_M_border_77 : decode b_M_border 77 = .ok (.goto (-73), 3) := by decide +kernel
theorem d_M_border_80 : decode b_M_border 80 = .ok (.iload_n 1, 1) := by decide +kernel
theorem d_M_border_81 : decode b_M_border 81 = .ok (.ireturn, 1) := by decide +kernel
theorem d_M_lengthOf_0 : decode b_M_lengthOf 0 = .ok (.iload_n 0, 1) := by decide +kernel
theorem d_M_lengthOf_1 : decode b_M_lengthOf 1 = .ok (.tableswitch 87 1 16 #[79, 79, 81, 85, 85, 85, 85, 85, 83, 85, 87, 87, 87, 87, 87, 79], 79) := by decide +kernel
theorem d_M_lengthOf_80 : decode b_M_lengthOf 80 = .ok (.iconst 2, 1) := by decide +kernel
theorem d_M_lengthOf_81 : decode b_M_lengthOf 81 = .ok (.ireturn, 1) := by decide +kernel
theorem d_M_lengthOf_82 : decode b_M_lengthOf 82 = .ok (.iconst 5, 1) := by decide +kernel
theorem d_M_lengthOf_83 : decode b_M_lengthOf 83 = .ok (.ireturn, 1) := by decide +kernel
theorem d_M_lengthOf_84 : decode b_M_lengthOf 84 = .ok (.iconst 3, 1) := by decide +kernel
theorem d_M_lengthOf_85 : decode b_M_lengthOf 85 = .ok (.ireturn, 1) := by decide +kernel
theorem d_M_lengthOf_86 : decode b_M_lengthOf 86 = .ok (.iconst 1, 1) := by decide +kernel
theorem d_M_lengthOf_87 : decode b_M_lengthOf 87 = .ok (.ireturn, 1) := by decide +kernel
theorem d_M_lengthOf_88 : decode b_M_lengthOf 88 = .ok (.iconst 0, 1) := by decide +kernel
theorem d_M_lengthOf_89 : decode b_M_lengthOf 89 = .ok (.ireturn, 1) := by decide +kernel
theorem d_M_isRegister_0 : decode b_M_isRegister 0 = .ok (.iload_n 0, 1) := by decide +kernel
theorem d_M_isRegister_1 : decode b_M_isRegister 1 = .ok (.ifCond .lt 12, 3) := by decide +kernel
theorem d_M_isRegister_4 : decode b_M_isRegister 4 = .ok (.iload_n 0, 1) := by decide +kernel
theorem d_M_isRegister_5 : decode b_M_isRegister 5 = .ok (.iconst 4, 1) := by decide +kernel
theorem d_M_isRegister_6 : decode b_M_isRegister 6 = .ok (.if_icmp .ge 7, 3) := by decide +kernel
theorem d_M_isRegister_9 : decode b_M_isRegister 9 = .ok (.iconst 1, 1) := by decide +kernel
theorem d_M_isRegister_10 : decode b_M_isRegister 10 = .ok (.goto 4, 3) := by decide +kernel
theorem d_M_isRegister_13 : decode b_M_isRegister 13 = .ok (.iconst 0, 1) := by decide +kernel
theorem d_M_isRegister_14 : decode b_M_isRegister 14 = .ok (.ireturn, 1) := by decide +kernel
theorem d_M_next_0 : decode b_M_next 0 = .ok (.aload_n 0, 1) := by decide +kernel
theorem d_M_next_1 : decode b_M_next 1 = .ok (.dup, 1) := by decide +kernel
theorem d_M_next_2 : decode b_M_next 2 = .ok (.getfield 103, 3) := by decide +kernel
theorem d_M_next_5 : decode b_M_next 5 = .ok (.iconst 1, 1) := by decide +kernel
theorem d_M_next_6 : decode b_M_next 6 = .ok (.iadd, 1) := by decide +kernel
theorem d_M_next_7 : decode b_M_next 7 = .ok (.putfield 103, 3) := by decide +kernel
theorem d_M_next_10 : decode b_M_next 10 = .ok (.aload_n 0, 1) := by decide +kernel
theorem d_M_next_11 : decode b_M_next 11 = .ok (.invokevirtual 143, 3) := by decide +kernel
theorem d_M_next_14 : decode b_M_next 14 = .ok (.istore_n 1, 1) := by decide +kernel
theorem d_M_next_15 : decode b_M_next 15 = .ok (.iconst 0, 1) := by decide +kernel
theorem d_M_next_16 : decode b_M_next 16 = .ok (.istore_n 2, 1) := by decide +kernel
theorem d_M_next_17 : decode b_M_next 17 = .ok (.iconst 0, 1) := by decide +kernel
theorem d_M_next_18 : decode b_M_next 18 = .ok (.istore_n 3, 1) := by decide +kernel
theorem d_M_next_19 : decode b_M_next 19 = .ok (.iload_n 3, 1) := by decide +kernel
theorem d_M_next_20 : decode b_M_next 20 = .ok (.aload_n 0, 1) := by decide +kernel
theorem d_M_next_21 : decode b_M_next 21 = .ok (.getfield 12, 3) := by decide +kernel
theorem d_M_next_24 : decode b_M_next 24 = .ok (.invokevirtual 46, 3) := by decide +kernel
theorem d_M_next_27 : decode b_M_next 27 = .ok (.if_icmp .ge 47, 3) := by decide +kernel
theorem d_M_next_30 : decode b_M_next 30 = .ok (.aload_n 0, 1) := by decide +kernel
theorem d_M_next_31 : decode b_M_next 31 = .ok (.getfield 12, 3) := by decide +kernel
theorem d_M_next_34 : decode b_M_next 34 = .ok (.iload_n 3, 1) := by decide +kernel
theorem d_M_next_35 : decode b_M_next 35 = .ok (.invokevirtual 134, 3) := by decide +kernel
theorem d_M_next_38 : decode b_M_next 38 = .ok (.checkcast 57, 3) := by decide +kernel
theorem d_M_next_41 : decode b_M_next 41 = .ok (.astore 4, 2) := by decide +kernel
theorem d_M_next_43 : decode b_M_next 43 = .ok (.aload 4, 2) := by decide +kernel
theorem d_M_next_45 : decode b_M_next 45 = .ok (.getfield 100, 3) := by decide +kernel
theorem d_M_next_48 : decode b_M_next 48 = .ok (.ifCond .eq 20, 3) := by decide +kernel
theorem d_M_next_51 : decode b_M_next 51 = .ok (.aload 4, 2) := by decide +kernel
theorem d_M_next_53 : decode b_M_next 53 = .ok (.getfield 106, 3) := by decide +kernel
theorem d_M_next_56 : decode b_M_next 56 = .ok (.iload_n 1, 1) := by decide +kernel
theorem d_M_next_57 : decode b_M_next 57 = .ok (.if_icmp .ge 11, 3) := by decide +kernel
theorem d_M_next_60 : decode b_M_next 60 = .ok (.aload 4, 2) := by decide +kernel
theorem d_M_next_62 : decode b_M_next 62 = .ok (.invokevirtual 90, 3) := by decide +kernel
theorem d_M_next_65 : decode b_M_next 65 = .ok (.iinc 2 1, 3) := by decide +kernel
theorem d_M_next_68 : decode b_M_next 68 = .ok (.iinc 3 1, 3) := by decide +kernel
theorem d_M_next_71 : decode b_M_next 71 = .ok (.goto (-52), 3) := by decide +kernel
theorem d_M_next_74 : decode b_M_next 74 = .ok (.iload_n 2, 1) := by decide +kernel
theorem d_M_next_75 : decode b_M_next 75 = .ok (.ireturn, 1) := by decide +kernel
theorem d_M_oldestGeneration_0 : decode b_M_oldestGeneration 0 = .ok (.iconst 0, 1) := by decide +kernel
theorem d_M_oldestGeneration_1 : decode b_M_oldestGeneration 1 = .ok (.aload_n 0, 1) := by decide +kernel
theorem d_M_oldestGeneration_2 : decode b_M_oldestGeneration 2 = .ok (.getfield 103, 3) := by decide +kernel
theorem d_M_oldestGeneration_5 : decode b_M_oldestGeneration 5 = .ok (.aload_n 0, 1) := by decide +kernel
theorem d_M_oldestGeneration_6 : decode b_M_oldestGeneration 6 = .ok (.getfield 42, 3) := by decide +kernel
theorem d_M_oldestGeneration_9 : decode b_M_oldestGeneration 9 = .ok (.isub, 1) := by decide +kernel
theorem d_M_oldestGeneration_10 : decode b_M_oldestGeneration 10 = .ok (.iconst 1, 1) := by decide +kernel
theorem d_M_oldestGeneration_11 : decode b_M_oldestGeneration 11 = .ok (.iadd, 1) := by decide +kernel
theorem d_M_oldestGeneration_12 : decode b_M_oldestGeneration 12 = .ok (.invokestatic 189, 3) := by decide +kernel
theorem d_M_oldestGeneration_15 : decode b_M_oldestGeneration 15 = .ok (.ireturn, 1) := by decide +kernel
theorem d_M_count_0 : decode b_M_count 0 = .ok (.iload_n 1, 1) := by decide +kernel
theorem d_M_count_1 : decode b_M_count 1 = .ok (.tableswitch 101 0 8 #[51, 59, 64, 69, 75, 81, 86, 91, 96], 51) := by decide +kernel
theorem d_M_count_52 : decode b_M_count 52 = .ok (.aload_n 0, 1) := by decide +kernel
theorem d_M_count_53 : decode b_M_count 53 = .ok (.getfield 12, 3) := by decide +kernel
theorem d_M_count_56 : decode b_M_count 56 = .ok (.invokevirtual 46, 3) := by decide +kernel
theorem d_M_count_59 : decode b_M_count 59 = .ok (.ireturn, 1) := by decide +kernel
theorem d_M_count_60 : decode b_M_count 60 = .ok (.aload_n 0, 1) := by decide +kernel
theorem d_M_count_61 : decode b_M_count 61 = .ok (.getfield 103, 3) := by decide +kernel
theorem d_M_count_64 : decode b_M_count 64 = .ok (.ireturn, 1) := by decide +kernel
theorem d_M_count_65 : decode b_M_count 65 = .ok (.aload_n 0, 1) := by decide +kernel
theorem d_M_count_66 : decode b_M_count 66 = .ok (.invokevirtual 143, 3) := by decide +kernel
theorem d_M_count_69 : decode b_M_count 69 = .ok (.ireturn, 1) := by decide +kernel
theorem d_M_count_70 : decode b_M_count 70 = .ok (.aload_n 0, 1) := by decide +kernel
theorem d_M_count_71 : decode b_M_count 71 = .ok (.iconst 2, 1) := by decide +kernel
theorem d_M_count_72 : decode b_M_count 72 = .ok (.invokevirtual 184, 3) := by decide +kernel
theorem d_M_count_75 : decode b_M_count 75 = .ok (.ireturn, 1) := by decide +kernel
theorem d_M_count_76 : decode b_M_count 76 = .ok (.aload_n 0, 1) := by decide +kernel
theorem d_M_count_77 : decode b_M_count 77 = .ok (.iconst 1, 1) := by decide +kernel
theorem d_M_count_78 : decode b_M_count 78 = .ok (.invokevirtual 184, 3) := by decide +kernel
theorem d_M_count_81 : decode b_M_count 81 = .ok (.ireturn, 1) := by decide +kernel
theorem d_M_count_82 : decode b_M_count 82 = .ok (.aload_n 0, 1) := by decide +kernel
theorem d_M_count_83 : decode b_M_count 83 = .ok (.getfield 138, 3) := by decide +kernel
theorem d_M_count_86 : decode b_M_count 86 = .ok (.ireturn, 1) := by decide +kernel
theorem d_M_count_87 : decode b_M_count 87 = .ok (.aload_n 0, 1) := by decide +kernel
theorem d_M_count_88 : decode b_M_count 88 = .ok (.getfield 153, 3) := by decide +kernel
theorem d_M_count_91 : decode b_M_count 91 = .ok (.ireturn, 1) := by decide +kernel
theorem d_M_count_92 : decode b_M_count 92 = .ok (.aload_n 0, 1) := by decide +kernel
theorem d_M_count_93 : decode b_M_count 93 = .ok (.getfield 156, 3) := by decide +kernel
theorem d_M_count_96 : decode b_M_count 96 = .ok (.ireturn, 1) := by decide +kernel
theorem d_M_count_97 : decode b_M_count 97 = .ok (.aload_n 0, 1) := by decide +kernel
theorem d_M_count_98 : decode b_M_count 98 = .ok (.getfield 42, 3) := by decide +kernel
theorem d_M_count_101 : decode b_M_count 101 = .ok (.ireturn, 1) := by decide +kernel
theorem d_M_count_102 : decode b_M_count 102 = .ok (.iconst (-1), 1) := by decide +kernel
theorem d_M_count_103 : decode b_M_count 103 = .ok (.ireturn, 1) := by decide +kernel
theorem d_M_blocksThatAre_0 : decode b_M_blocksThatAre 0 = .ok (.iconst 0, 1) := by decide +kernel
theorem d_M_blocksThatAre_1 : decode b_M_blocksThatAre 1 = .ok (.istore_n 2, 1) := by decide +kernel
theorem d_M_blocksThatAre_2 : decode b_M_blocksThatAre 2 = .ok (.iconst 0, 1) := by decide +kernel
theorem d_M_blocksThatAre_3 : decode b_M_blocksThatAre 3 = .ok (.istore_n 3, 1) := by decide +kernel
theorem d_M_blocksThatAre_4 : decode b_M_blocksThatAre 4 = .ok (.iload_n 3, 1) := by decide +kernel
theorem d_M_blocksThatAre_5 : decode b_M_blocksThatAre 5 = .ok (.aload_n 0, 1) := by decide +kernel
theorem d_M_blocksThatAre_6 : decode b_M_blocksThatAre 6 = .ok (.getfield 12, 3) := by decide +kernel
theorem d_M_blocksThatAre_9 : decode b_M_blocksThatAre 9 = .ok (.invokevirtual 46, 3) := by decide +kernel
theorem d_M_blocksThatAre_12 : decode b_M_blocksThatAre 12 = .ok (.if_icmp .ge 30, 3) := by decide +kernel
theorem d_M_blocksThatAre_15 : decode b_M_blocksThatAre 15 = .ok (.aload_n 0, 1) := by decide +kernel
theorem d_M_blocksThatAre_16 : decode b_M_blocksThatAre 16 = .ok (.getfield 12, 3) := by decide +kernel
theorem d_M_blocksThatAre_19 : decode b_M_blocksThatAre 19 = .ok (.iload_n 3, 1) := by decide +kernel
theorem d_M_blocksThatAre_20 : decode b_M_blocksThatAre 20 = .ok (.invokevirtual 134, 3) := by decide +kernel
theorem d_M_blocksThatAre_23 : decode b_M_blocksThatAre 23 = .ok (.checkcast 57, 3) := by decide +kernel
theorem d_M_blocksThatAre_26 : decode b_M_blocksThatAre 26 = .ok (.getfield 100, 3) := by decide +kernel
theorem d_M_blocksThatAre_29 : decode b_M_blocksThatAre 29 = .ok (.iload_n 1, 1) := by decide +kernel
theorem d_M_blocksThatAre_30 : decode b_M_blocksThatAre 30 = .ok (.if_icmp .ne 6, 3) := by decide +kernel
theorem d_M_blocksThatAre_33 : decode b_M_blocksThatAre 33 = .ok (.iinc 2 1, 3) := by decide +kernel
theorem d_M_blocksThatAre_36 : decode b_M_blocksThatAre 36 = .ok (.iinc 3 1, 3) := by decide +kernel
theorem d_M_blocksThatAre_39 : decode b_M_blocksThatAre 39 = .ok (.goto (-35), 3) := by decide +kernel
theorem d_M_blocksThatAre_42 : decode b_M_blocksThatAre 42 = .ok (.iload_n 2, 1) := by decide +kernel
theorem d_M_blocksThatAre_43 : decode b_M_blocksThatAre 43 = .ok (.ireturn, 1) := by decide +kernel
theorem d_M_block_0 : decode b_M_block 0 = .ok (.aload_n 0, 1) := by decide +kernel
theorem d_M_block_1 : decode b_M_block 1 = .ok (.getfield 12, 3) := by decide +kernel
theorem d_M_block_4 : decode b_M_block 4 = .ok (.invokevirtual 46, 3) := by decide +kernel
theorem d_M_block_7 : decode b_M_block 7 = .ok (.bipush 24, 2) := by decide +kernel
theorem d_M_block_9 : decode b_M_block 9 = .ok (.if_icmp .lt 13, 3) := by decide +kernel
theorem d_M_block_12 : decode b_M_block 12 = .ok (.new 50, 3) := by decide +kernel
theorem d_M_block_15 : decode b_M_block 15 = .ok (.dup, 1) := by decide +kernel
theorem d_M_block_16 : decode b_M_block 16 = .ok (.ldc 52, 2) := by decide +kernel
theorem d_M_block_18 : decode b_M_block 18 = .ok (.invokespecial 54, 3) := by decide +kernel
theorem d_M_block_21 : decode b_M_block 21 = .ok (.athrow, 1) := by decide +kernel
theorem d_M_block_22 : decode b_M_block 22 = .ok (.aload_n 0, 1) := by decide +kernel
theorem d_M_block_23 : decode b_M_block 23 = .ok (.getfield 12, 3) := by decide +kernel
theorem d_M_block_26 : decode b_M_block 26 = .ok (.new 57, 3) := by decide +kernel
theorem d_M_block_29 : decode b_M_block 29 = .ok (.dup, 1) := by decide +kernel
theorem d_M_block_30 : decode b_M_block 30 = .ok (.invokespecial 59, 3) := by decide +kernel
theorem d_M_block_33 : decode b_M_block 33 = .ok (.invokevirtual 60, 3) := by decide +kernel
theorem d_M_block_36 : decode b_M_block 36 = .ok (.pop, 1) := by decide +kernel
theorem d_M_block_37 : decode b_M_block 37 = .ok (.aload_n 0, 1) := by decide +kernel
theorem d_M_block_38 : decode b_M_block 38 = .ok (.getfield 12, 3) := by decide +kernel
theorem d_M_block_41 : decode b_M_block 41 = .ok (.invokevirtual 46, 3) := by decide +kernel
theorem d_M_block_44 : decode b_M_block 44 = .ok (.iconst 1, 1) := by decide +kernel
theorem d_M_block_45 : decode b_M_block 45 = .ok (.isub, 1) := by decide +kernel
theorem d_M_block_46 : decode b_M_block 46 = .ok (.ireturn, 1) := by decide +kernel
theorem d_M_instruction_0 : decode b_M_instruction 0 = .ok (.aload_n 0, 1) := by decide +kernel
theorem d_M_instruction_1 : decode b_M_instruction 1 = .ok (.iload_n 1, 1) := by decide +kernel
theorem d_M_instruction_2 : decode b_M_instruction 2 = .ok (.invokevirtual 64, 3) := by decide +kernel
theorem d_M_instruction_5 : decode b_M_instruction 5 = .ok (.astore 5, 2) := by decide +kernel
theorem d_M_instruction_7 : decode b_M_instruction 7 = .ok (.iload_n 2, 1) := by decide +kernel
theorem d_M_instruction_8 : decode b_M_instruction 8 = .ok (.ifCond .lt 25, 3) := by decide +kernel
theorem d_M_instruction_11 : decode b_M_instruction 11 = .ok (.iload_n 2, 1) := by decide +kernel
theorem d_M_instruction_12 : decode b_M_instruction 12 = .ok (.bipush 7, 2) := by decide +kernel
theorem d_M_instruction_14 : decode b_M_instruction 14 = .ok (.if_icmp .gt 19, 3) := by decide +kernel
theorem d_M_instruction_17 : decode b_M_instruction 17 = .ok (.iload_n 3, 1) := by decide +kernel
theorem d_M_instruction_18 : decode b_M_instruction 18 = .ok (.invokestatic 68, 3) := by decide +kernel
theorem d_M_instruction_21 : decode b_M_instruction 21 = .ok (.ifCond .eq 12, 3) := by decide +kernel
theorem d_M_instruction_24 : decode b_M_instruction 24 = .ok (.iload_n 2, 1) := by decide +kernel
theorem d_M_instruction_25 : decode b_M_instruction 25 = .ok (.iload 4, 2) := by decide +kernel
theorem d_M_instruction_27 : decode b_M_instruction 27 = .ok (.invokestatic 72, 3) := by decide +kernel
theorem d_M_instruction_30 : decode b_M_instruction 30 = .ok (.ifCond .ne 13, 3) := by decide +kernel
theorem d_M_instruction_33 : decode b_M_instruction 33 = .ok (.new 76, 3) := by decide +kernel
theorem d_M_instruction_36 : decode b_M_instruction 36 = .ok (.dup, 1) := by decide +kernel
theorem d_M_instruction_37 : decode b_M_instruction 37 = .ok (.ldc 78, 2) := by decide +kernel
theorem d_M_instruction_39 : decode b_M_instruction 39 = .ok (.invokespecial 80, 3) := by decide +kernel
theorem d_M_instruction_42 : decode b_M_instruction 42 = .ok (.athrow, 1) := by decide +kernel
theorem d_M_instruction_43 : decode b_M_instruction 43 = .ok (.aload 5, 2) := by decide +kernel
theorem d_M_instruction_45 : decode b_M_instruction 45 = .ok (.getfield 81, 3) := by decide +kernel
theorem d_M_instruction_48 : decode b_M_instruction 48 = .ok (.bipush 60, 2) := by decide +kernel
theorem d_M_instruction_50 : decode b_M_instruction 50 = .ok (.if_icmp .lt 13, 3) := by decide +kernel
theorem d_M_instruction_53 : decode b_M_instruction 53 = .ok (.new 50, 3) := by decide +kernel
theorem d_M_instruction_56 : decode b_M_instruction 56 = .ok (.dup, 1) := by decide +kernel
theorem d_M_instruction_57 : decode b_M_instruction 57 = .ok (.ldc 84, 2) := by decide +kernel
theorem d_M_instruction_59 : decode b_M_instruction 59 = .ok (.invokespecial 54, 3) := by decide +kernel
theorem d_M_instruction_62 : decode b_M_instruction 62 = .ok (.athrow, 1) := by decide +kernel
theorem d_M_instruction_63 : decode b_M_instruction 63 = .ok (.aload 5, 2) := by decide +kernel
theorem d_M_instruction_65 : decode b_M_instruction 65 = .ok (.iload_n 2, 1) := by decide +kernel
theorem d_M_instruction_66 : decode b_M_instruction 66 = .ok (.iload_n 3, 1) := by decide +kernel
theorem d_M_instruction_67 : decode b_M_instruction 67 = .ok (.iload 4, 2) := by decide +kernel
theorem d_M_instruction_69 : decode b_M_instruction 69 = .ok (.invokevirtual 86, 3) := by decide +kernel
theorem d_M_instruction_72 : decode b_M_instruction 72 = .ok (.aload 5, 2) := by decide +kernel
theorem d_M_instruction_74 : decode b_M_instruction 74 = .ok (.invokevirtual 90, 3) := by decide +kernel
theorem d_M_instruction_77 : decode b_M_instruction 77 = .ok (.aload 5, 2) := by decide +kernel
theorem d_M_instruction_79 : decode b_M_instruction 79 = .ok (.getfield 81, 3) := by decide +kernel
theorem d_M_instruction_82 : decode b_M_instruction 82 = .ok (.ireturn, 1) := by decide +kernel
theorem d_M_find_0 : decode b_M_find 0 = .ok (.iload_n 1, 1) := by decide +kernel
theorem d_M_find_1 : decode b_M_find 1 = .ok (.ifCond .lt 14, 3) := by decide +kernel
theorem d_M_find_4 : decode b_M_find 4 = .ok (.iload_n 1, 1) := by decide +kernel
theorem d_M_find_5 : decode b_M_find 5 = .ok (.aload_n 0, 1) := by decide +kernel
theorem d_M_find_6 : decode b_M_find 6 = .ok (.getfield 12, 3) := by decide +kernel
theorem d_M_find_9 : decode b_M_find 9 = .ok (.invokevirtual 46, 3) := by decide +kernel
theorem d_M_find_12 : decode b_M_find 12 = .ok (.if_icmp .lt 13, 3) := by decide +kernel
theorem d_M_find_15 : decode b_M_find 15 = .ok (.new 162, 3) := by decide +kernel
theorem d_M_find_18 : decode b_M_find 18 = .ok (.dup, 1) := by decide +kernel
theorem d_M_find_19 : decode b_M_find 19 = .ok (.ldc 187, 2) := by decide +kernel
theorem d_M_find_21 : decode b_M_find 21 = .ok (.invokespecial 166, 3) := by decide +kernel
theorem d_M_find_24 : decode b_M_find 24 = .ok (.athrow, 1) := by decide +kernel
theorem d_M_find_25 : decode b_M_find 25 = .ok (.aload_n 0, 1) := by decide +kernel
theorem d_M_find_26 : decode b_M_find 26 = .ok (.getfield 12, 3) := by decide +kernel
theorem d_M_find_29 : decode b_M_find 29 = .ok (.iload_n 1, 1) := by decide +kernel
theorem d_M_find_30 : decode b_M_find 30 = .ok (.invokevirtual 134, 3) := by decide +kernel
theorem d_M_find_33 : decode b_M_find 33 = .ok (.checkcast 57, 3) := by decide +kernel
theorem d_M_find_36 : decode b_M_find 36 = .ok (.areturn, 1) := by decide +kernel
theorem d_M_isOperand_0 : decode b_M_isOperand 0 = .ok (.iload_n 0, 1) := by decide +kernel
theorem d_M_isOperand_1 : decode b_M_isOperand 1 = .ok (.lookupswitch 45 #[(0, 27), (6, 29)], 27) := by decide +kernel
theorem d_M_isOperand_28 : decode b_M_isOperand 28 = .ok (.iconst 1, 1) := by decide +kernel
theorem d_M_isOperand_29 : decode b_M_isOperand 29 = .ok (.ireturn, 1) := by decide +kernel
theorem d_M_isOperand_30 : decode b_M_isOperand 30 = .ok (.iload_n 1, 1) := by decide +kernel
theorem d_M_isOperand_31 : decode b_M_isOperand 31 = .ok (.ifCond .lt 13, 3) := by decide +kernel
theorem d_M_isOperand_34 : decode b_M_isOperand 34 = .ok (.iload_n 1, 1) := by decide +kernel
theorem d_M_isOperand_35 : decode b_M_isOperand 35 = .ok (.bipush 60, 2) := by decide +kernel
theorem d_M_isOperand_37 : decode b_M_isOperand 37 = .ok (.if_icmp .gt 7, 3) := by decide +kernel
theorem d_M_isOperand_40 : decode b_M_isOperand 40 = .ok (.iconst 1, 1) := by decide +kernel
theorem d_M_isOperand_41 : decode b_M_isOperand 41 = .ok (.goto 4, 3) := by decide +kernel
theorem d_M_isOperand_44 : decode b_M_isOperand 44 = .ok (.iconst 0, 1) := by decide +kernel
theorem d_M_isOperand_45 : decode b_M_isOperand 45 = .ok (.ireturn, 1) := by decide +kernel
theorem d_M_isOperand_46 : decode b_M_isOperand 46 = .ok (.iload_n 1, 1) := by decide +kernel
theorem d_M_isOperand_47 : decode b_M_isOperand 47 = .ok (.invokestatic 68, 3) := by decide +kernel
theorem d_M_isOperand_50 : decode b_M_isOperand 50 = .ok (.ireturn, 1) := by decide +kernel
theorem d_M_make_0 : decode b_M_make 0 = .ok (.aload_n 0, 1) := by decide +kernel
theorem d_M_make_1 : decode b_M_make 1 = .ok (.iload_n 1, 1) := by decide +kernel
theorem d_M_make_2 : decode b_M_make 2 = .ok (.invokevirtual 64, 3) := by decide +kernel
theorem d_M_make_5 : decode b_M_make 5 = .ok (.astore_n 2, 1) := by decide +kernel
theorem d_M_make_6 : decode b_M_make 6 = .ok (.aload_n 2, 1) := by decide +kernel
theorem d_M_make_7 : decode b_M_make 7 = .ok (.invokevirtual 93, 3) := by decide +kernel
theorem d_M_make_10 : decode b_M_make 10 = .ok (.ifCond .ne 9, 3) := by decide +kernel
theorem d_M_make_13 : decode b_M_make 13 = .ok (.aload_n 2, 1) := by decide +kernel
theorem d_M_make_14 : decode b_M_make 14 = .ok (.invokevirtual 90, 3) := by decide +kernel
theorem d_M_make_17 : decode b_M_make 17 = .ok (.iconst (-1), 1) := by decide +kernel
theorem d_M_make_18 : decode b_M_make 18 = .ok (.ireturn, 1) := by decide +kernel
theorem d_M_make_19 : decode b_M_make 19 = .ok (.aload_n 2, 1) := by decide +kernel
theorem d_M_make_20 : decode b_M_make 20 = .ok (.invokevirtual 97, 3) := by decide +kernel
theorem d_M_make_23 : decode b_M_make 23 = .ok (.aload_n 2, 1) := by decide +kernel
theorem d_M_make_24 : decode b_M_make 24 = .ok (.iconst 1, 1) := by decide +kernel
theorem d_M_make_25 : decode b_M_make 25 = .ok (.putfield 100, 3) := by decide +kernel
theorem d_M_make_28 : decode b_M_make 28 = .ok (.aload_n 2, 1) := by decide +kernel
theorem d_M_make_29 : decode b_M_make 29 = .ok (.aload_n 0, 1) := by decide +kernel
theorem d_M_make_30 : decode b_M_make 30 = .ok (.getfield 103, 3) := by decide +kernel
theorem d_M_make_33 : decode b_M_make 33 = .ok (.putfield 106, 3) := by decide +kernel
theorem d_M_make_36 : decode b_M_make 36 = .ok (.aload_n 2, 1) := by decide +kernel
theorem d_M_make_37 : decode b_M_make 37 = .ok (.getfield 107, 3) := by decide +kernel
theorem d_M_make_40 : decode b_M_make 40 = .ok (.ireturn, 1) := by decide +kernel
theorem d_M_byteAt_0 : decode b_M_byteAt 0 = .ok (.aload_n 0, 1) := by decide +kernel
theorem d_M_byteAt_1 : decode b_M_byteAt 1 = .ok (.iload_n 1, 1) := by decide +kernel
theorem d_M_byteAt_2 : decode b_M_byteAt 2 = .ok (.invokevirtual 64, 3) := by decide +kernel
theorem d_M_byteAt_5 : decode b_M_byteAt 5 = .ok (.astore_n 3, 1) := by decide +kernel
theorem d_M_byteAt_6 : decode b_M_byteAt 6 = .ok (.aload_n 3, 1) := by decide +kernel
theorem d_M_byteAt_7 : decode b_M_byteAt 7 = .ok (.getfield 100, 3) := by decide +kernel
theorem d_M_byteAt_10 : decode b_M_byteAt 10 = .ok (.ifCond .ne 13, 3) := by decide +kernel
theorem d_M_byteAt_13 : decode b_M_byteAt 13 = .ok (.new 110, 3) := by decide +kernel
theorem d_M_byteAt_16 : decode b_M_byteAt 16 = .ok (.dup, 1) := by decide +kernel
theorem d_M_byteAt_17 : decode b_M_byteAt 17 = .ok (.ldc 112, 2) := by decide +kernel
theorem d_M_byteAt_19 : decode b_M_byteAt 19 = .ok (.invokespecial 114, 3) := by decide +kernel
theorem d_M_byteAt_22 : decode b_M_byteAt 22 = .ok (.athrow, 1) := by decide +kernel
theorem d_M_byteAt_23 : decode b_M_byteAt 23 = .ok (.aload_n 3, 1) := by decide +kernel
theorem d_M_byteAt_24 : decode b_M_byteAt 24 = .ok (.iload_n 2, 1) := by decide +kernel
theorem d_M_byteAt_25 : decode b_M_byteAt 25 = .ok (.invokevirtual 115, 3) := by decide +kernel
theorem d_M_byteAt_28 : decode b_M_byteAt 28 = .ok (.ifCond .ne 13, 3) := by decide +kernel
theorem d_M_byteAt_31 : decode b_M_byteAt 31 = .ok (.new 76, 3) := by decide +kernel
theorem d_M_byteAt_34 : decode b_M_byteAt 34 = .ok (.dup, 1) := by decide +kernel
theorem d_M_byteAt_35 : decode b_M_byteAt 35 = .ok (.ldc 118, 2) := by decide +kernel
theorem d_M_byteAt_37 : decode b_M_byteAt 37 = .ok (.invokespecial 80, 3) := by decide +kernel
theorem d_M_byteAt_40 : decode b_M_byteAt 40 = .ok (.athrow, 1) := by decide +kernel
theorem d_M_byteAt_41 : decode b_M_byteAt 41 = .ok (.aload_n 3, 1) := by decide +kernel
theorem d_M_byteAt_42 : decode b_M_byteAt 42 = .ok (.iload_n 2, 1) := by decide +kernel
theorem d_M_byteAt_43 : decode b_M_byteAt 43 = .ok (.invokevirtual 120, 3) := by decide +kernel
theorem d_M_byteAt_46 : decode b_M_byteAt 46 = .ok (.ireturn, 1) := by decide +kernel
theorem d_M_alter_0 : decode b_M_alter 0 = .ok (.aload_n 0, 1) := by decide +kernel
theorem d_M_alter_1 : decode b_M_alter 1 = .ok (.iload_n 1, 1) := by decide +kernel
theorem d_M_alter_2 : decode b_M_alter 2 = .ok (.invokevirtual 64, 3) := by decide +kernel
theorem d_M_alter_5 : decode b_M_alter 5 = .ok (.astore 4, 2) := by decide +kernel
theorem d_M_alter_7 : decode b_M_alter 7 = .ok (.aload 4, 2) := by decide +kernel
theorem d_M_alter_9 : decode b_M_alter 9 = .ok (.getfield 100, 3) := by decide +kernel
theorem d_M_alter_12 : decode b_M_alter 12 = .ok (.iconst 1, 1) := by decide +kernel
theorem d_M_alter_13 : decode b_M_alter 13 = .ok (.if_icmp .eq 13, 3) := by decide +kernel
theorem d_M_alter_16 : decode b_M_alter 16 = .ok (.new 110, 3) := by decide +kernel
theorem d_M_alter_19 : decode b_M_alter 19 = .ok (.dup, 1) := by decide +kernel
theorem d_M_alter_20 : decode b_M_alter 20 = .ok (.ldc 124, 2) := by decide +kernel
theorem d_M_alter_22 : decode b_M_alter 22 = .ok (.invokespecial 114, 3) := by decide +kernel
theorem d_M_alter_25 : decode b_M_alter 25 = .ok (.athrow, 1) := by decide +kernel
theorem d_M_alter_26 : decode b_M_alter 26 = .ok (.aload 4, 2) := by decide +kernel
theorem d_M_alter_28 : decode b_M_alter 28 = .ok (.iload_n 2, 1) := by decide +kernel
theorem d_M_alter_29 : decode b_M_alter 29 = .ok (.invokevirtual 115, 3) := by decide +kernel
theorem d_M_alter_32 : decode b_M_alter 32 = .ok (.ifCond .eq 14, 3) := by decide +kernel
theorem d_M_alter_35 : decode b_M_alter 35 = .ok (.iload_n 3, 1) := by decide +kernel
theorem d_M_alter_36 : decode b_M_alter 36 = .ok (.ifCond .lt 10, 3) := by decide +kernel
theorem d_M_alter_39 : decode b_M_alter 39 = .ok (.iload_n 3, 1) := by decide +kernel
theorem d_M_alter_40 : decode b_M_alter 40 = .ok (.sipush 255, 3) := by decide +kernel
theorem d_M_alter_43 : decode b_M_alter 43 = .ok (.if_icmp .le 13, 3) := by decide +kernel
theorem d_M_alter_46 : decode b_M_alter 46 = .ok (.new 76, 3) := by decide +kernel
theorem d_M_alter_49 : decode b_M_alter 49 = .ok (.dup, 1) := by decide +kernel
theorem d_M_alter_50 : decode b_M_alter 50 = .ok (.ldc 118, 2) := by decide +kernel
theorem d_M_alter_52 : decode b_M_alter 52 = .ok (.invokespecial 80, 3) := by decide +kernel
theorem d_M_alter_55 : decode b_M_alter 55 = .ok (.athrow, 1) := by decide +kernel
theorem d_M_alter_56 : decode b_M_alter 56 = .ok (.aload 4, 2) := by decide +kernel
theorem d_M_alter_58 : decode b_M_alter 58 = .ok (.iload_n 2, 1) := by decide +kernel
theorem d_M_alter_59 : decode b_M_alter 59 = .ok (.invokevirtual 120, 3) := by decide +kernel
theorem d_M_alter_62 : decode b_M_alter 62 = .ok (.istore 5, 2) := by decide +kernel
theorem d_M_alter_64 : decode b_M_alter 64 = .ok (.aload 4, 2) := by decide +kernel
theorem d_M_alter_66 : decode b_M_alter 66 = .ok (.iload_n 2, 1) := by decide +kernel
theorem d_M_alter_67 : decode b_M_alter 67 = .ok (.iload_n 3, 1) := by decide +kernel
theorem d_M_alter_68 : decode b_M_alter 68 = .ok (.invokevirtual 126, 3) := by decide +kernel
theorem d_M_alter_71 : decode b_M_alter 71 = .ok (.iload 5, 2) := by decide +kernel
theorem d_M_alter_73 : decode b_M_alter 73 = .ok (.ireturn, 1) := by decide +kernel
theorem d_M_check_0 : decode b_M_check 0 = .ok (.aload_n 0, 1) := by decide +kernel
theorem d_M_check_1 : decode b_M_check 1 = .ok (.iload_n 1, 1) := by decide +kernel
theorem d_M_check_2 : decode b_M_check 2 = .ok (.invokevirtual 64, 3) := by decide +kernel
theorem d_M_check_5 : decode b_M_check 5 = .ok (.astore_n 2, 1) := by decide +kernel
theorem d_M_check_6 : decode b_M_check 6 = .ok (.aload_n 2, 1) := by decide +kernel
theorem d_M_check_7 : decode b_M_check 7 = .ok (.getfield 100, 3) := by decide +kernel
theorem d_M_check_10 : decode b_M_check 10 = .ok (.ifCond .ne 13, 3) := by decide +kernel
theorem d_M_check_13 : decode b_M_check 13 = .ok (.new 110, 3) := by decide +kernel
theorem d_M_check_16 : decode b_M_check 16 = .ok (.dup, 1) := by decide +kernel
theorem d_M_check_17 : decode b_M_check 17 = .ok (.ldc 112, 2) := by decide +kernel
theorem d_M_check_19 : decode b_M_check 19 = .ok (.invokespecial 114, 3) := by decide +kernel
theorem d_M_check_22 : decode b_M_check 22 = .ok (.athrow, 1) := by decide +kernel
theorem d_M_check_23 : decode b_M_check 23 = .ok (.aload_n 0, 1) := by decide +kernel
theorem d_M_check_24 : decode b_M_check 24 = .ok (.getfield 19, 3) := by decide +kernel
theorem d_M_check_27 : decode b_M_check 27 = .ok (.aload_n 2, 1) := by decide +kernel
theorem d_M_check_28 : decode b_M_check 28 = .ok (.invokevirtual 130, 3) := by decide +kernel
theorem d_M_check_31 : decode b_M_check 31 = .ok (.ireturn, 1) := by decide +kernel
theorem d_M_what_0 : decode b_M_what 0 = .ok (.aload_n 0, 1) := by decide +kernel
theorem d_M_what_1 : decode b_M_what 1 = .ok (.iload_n 1, 1) := by decide +kernel
theorem d_M_what_2 : decode b_M_what 2 = .ok (.invokevirtual 64, 3) := by decide +kernel
theorem d_M_what_5 : decode b_M_what 5 = .ok (.astore_n 3, 1) := by decide +kernel
theorem d_M_what_6 : decode b_M_what 6 = .ok (.iload_n 2, 1) := by decide +kernel
theorem d_M_what_7 : decode b_M_what 7 = .ok (.tableswitch 49 0 3 #[29, 34, 39, 44], 29) := by decide +kernel
theorem d_M_what_36 : decode b_M_what 36 = .ok (.aload_n 3, 1) := by decide +kernel
theorem d_M_what_37 : decode b_M_what 37 = .ok (.getfield 100, 3) := by decide +kernel
theorem d_M_what_40 : decode b_M_what 40 = .ok (.ireturn, 1) := by decide +kernel
theorem d_M_what_41 : decode b_M_what 41 = .ok (.aload_n 3, 1) := by decide +kernel
theorem d_M_what_42 : decode b_M_what 42 = .ok (.getfield 106, 3) := by decide +kernel
theorem d_M_what_45 : decode b_M_what 45 = .ok (.ireturn, 1) := by decide +kernel
theorem d_M_what_46 : decode b_M_what 46 = .ok (.aload_n 3, 1) := by decide +kernel
theorem d_M_what_47 : decode b_M_what 47 = .ok (.getfield 81, 3) := by decide +kernel
theorem d_M_what_50 : decode b_M_what 50 = .ok (.ireturn, 1) := by decide +kernel
theorem d_M_what_51 : decode b_M_what 51 = .ok (.aload_n 3, 1) := by decide +kernel
theorem d_M_what_52 : decode b_M_what 52 = .ok (.getfield 107, 3) := by decide +kernel
theorem d_M_what_55 : decode b_M_what 55 = .ok (.ireturn, 1) := by decide +kernel
theorem d_M_what_56 : decode b_M_what 56 = .ok (.new 76, 3) := by decide +kernel
theorem d_M_what_59 : decode b_M_what 59 = .ok (.dup, 1) := by decide +kernel
theorem d_M_what_60 : decode b_M_what 60 = .ok (.ldc 141, 2) := by decide +kernel
theorem d_M_what_62 : decode b_M_what 62 = .ok (.invokespecial 80, 3) := by decide +kernel
theorem d_M_what_65 : decode b_M_what 65 = .ok (.athrow, 1) := by decide +kernel
theorem d_M_run_0 : decode b_M_run 0 = .ok (.aload_n 0, 1) := by decide +kernel
theorem d_M_run_1 : decode b_M_run 1 = .ok (.iload_n 1, 1) := by decide +kernel
theorem d_M_run_2 : decode b_M_run 2 = .ok (.invokevirtual 64, 3) := by decide +kernel
theorem d_M_run_5 : decode b_M_run 5 = .ok (.astore 6, 2) := by decide +kernel
theorem d_M_run_7 : decode b_M_run 7 = .ok (.aload 6, 2) := by decide +kernel
theorem d_M_run_9 : decode b_M_run 9 = .ok (.getfield 100, 3) := by decide +kernel
theorem d_M_run_12 : decode b_M_run 12 = .ok (.iconst 2, 1) := by decide +kernel
theorem d_M_run_13 : decode b_M_run 13 = .ok (.if_icmp .ne 18, 3) := by decide +kernel
theorem d_M_run_16 : decode b_M_run 16 = .ok (.aload_n 0, 1) := by decide +kernel
theorem d_M_run_17 : decode b_M_run 17 = .ok (.getfield 26, 3) := by decide +kernel
theorem d_M_run_20 : decode b_M_run 20 = .ok (.aload 6, 2) := by decide +kernel
theorem d_M_run_22 : decode b_M_run 22 = .ok (.lload_n 2, 1) := by decide +kernel
theorem d_M_run_23 : decode b_M_run 23 = .ok (.lload 4, 2) := by decide +kernel
theorem d_M_run_25 : decode b_M_run 25 = .ok (.invokevirtual 146, 3) := by decide +kernel
theorem d_M_run_28 : decode b_M_run 28 = .ok (.goto 15, 3) := by decide +kernel
theorem d_M_run_31 : decode b_M_run 31 = .ok (.aload_n 0, 1) := by decide +kernel
theorem d_M_run_32 : decode b_M_run 32 = .ok (.getfield 26, 3) := by decide +kernel
theorem d_M_run_35 : decode b_M_run 35 = .ok (.aload 6, 2) := by decide +kernel
theorem d_M_run_37 : decode b_M_run 37 = .ok (.lload_n 2, 1) := by decide +kernel
theorem d_M_run_38 : decode b_M_run 38 = .ok (.lload 4, 2) := by decide +kernel
theorem d_M_run_40 : decode b_M_run 40 = .ok (.invokevirtual 150, 3) := by decide +kernel
theorem d_M_run_43 : decode b_M_run 43 = .ok (.aload_n 0, 1) := by decide +kernel
theorem d_M_run_44 : decode b_M_run 44 = .ok (.dup, 1) := by decide +kernel
theorem d_M_run_45 : decode b_M_run 45 = .ok (.getfield 153, 3) := by decide +kernel
theorem d_M_run_48 : decode b_M_run 48 = .ok (.iconst 1, 1) := by decide +kernel
theorem d_M_run_49 : decode b_M_run 49 = .ok (.iadd, 1) := by decide +kernel
theorem d_M_run_50 : decode b_M_run 50 = .ok (.putfield 153, 3) := by decide +kernel
theorem d_M_run_53 : decode b_M_run 53 = .ok (.aload_n 0, 1) := by decide +kernel
theorem d_M_run_54 : decode b_M_run 54 = .ok (.dup, 1) := by decide +kernel
theorem d_M_run_55 : decode b_M_run 55 = .ok (.getfield 156, 3) := by decide +kernel
theorem d_M_run_58 : decode b_M_run 58 = .ok (.aload_n 0, 1) := by decide +kernel
theorem d_M_run_59 : decode b_M_run 59 = .ok (.getfield 26, 3) := by decide +kernel
theorem d_M_run_62 : decode b_M_run 62 = .ok (.getfield 159, 3) := by decide +kernel
theorem d_M_run_65 : decode b_M_run 65 = .ok (.iadd, 1) := by decide +kernel
theorem d_M_run_66 : decode b_M_run 66 = .ok (.putfield 156, 3) := by decide +kernel
theorem d_M_run_69 : decode b_M_run 69 = .ok (.aload_n 0, 1) := by decide +kernel
theorem d_M_run_70 : decode b_M_run 70 = .ok (.getfield 26, 3) := by decide +kernel
theorem d_M_run_73 : decode b_M_run 73 = .ok (.getfield 159, 3) := by decide +kernel
theorem d_M_run_76 : decode b_M_run 76 = .ok (.ireturn, 1) := by decide +kernel
theorem d_M_register_0 : decode b_M_register 0 = .ok (.iload_n 1, 1) := by decide +kernel
theorem d_M_register_1 : decode b_M_register 1 = .ok (.invokestatic 68, 3) := by decide +kernel
theorem d_M_register_4 : decode b_M_register 4 = .ok (.ifCond .ne 13, 3) := by decide +kernel
theorem d_M_register_7 : decode b_M_register 7 = .ok (.new 162, 3) := by decide +kernel
theorem d_M_register_10 : decode b_M_register 10 = .ok (.dup, 1) := by decide +kernel
theorem d_M_register_11 : decode b_M_register 11 = .ok (.ldc 164, 2) := by decide +kernel
theorem d_M_register_13 : decode b_M_register 13 = .ok (.invokespecial 166, 3) := by decide +kernel
theorem d_M_register_16 : decode b_M_register 16 = .ok (.athrow, 1) := by decide +kernel
theorem d_M_register_17 : decode b_M_register 17 = .ok (.aload_n 0, 1) := by decide +kernel
theorem d_M_register_18 : decode b_M_register 18 = .ok (.getfield 26, 3) := by decide +kernel
theorem d_M_register_21 : decode b_M_register 21 = .ok (.iload_n 1, 1) := by decide +kernel
theorem d_M_register_22 : decode b_M_register 22 = .ok (.invokevirtual 167, 3) := by decide +kernel
theorem d_M_register_25 : decode b_M_register 25 = .ok (.lreturn, 1) := by decide +kernel
theorem d_M_ended_0 : decode b_M_ended 0 = .ok (.iload_n 1, 1) := by decide +kernel
theorem d_M_ended_1 : decode b_M_ended 1 = .ok (.lookupswitch 51 #[(0, 27), (1, 35)], 27) := by decide +kernel
theorem d_M_ended_28 : decode b_M_ended 28 = .ok (.aload_n 0, 1) := by decide +kernel
theorem d_M_ended_29 : decode b_M_ended 29 = .ok (.getfield 26, 3) := by decide +kernel
theorem d_M_ended_32 : decode b_M_ended 32 = .ok (.getfield 171, 3) := by decide +kernel
theorem d_M_ended_35 : decode b_M_ended 35 = .ok (.ireturn, 1) := by decide +kernel
theorem d_M_ended_36 : decode b_M_ended 36 = .ok (.aload_n 0, 1) := by decide +kernel
theorem d_M_ended_37 : decode b_M_ended 37 = .ok (.getfield 26, 3) := by decide +kernel
theorem d_M_ended_40 : decode b_M_ended 40 = .ok (.getfield 174, 3) := by decide +kernel
theorem d_M_ended_43 : decode b_M_ended 43 = .ok (.ifCond .eq 7, 3) := by decide +kernel
theorem d_M_ended_46 : decode b_M_ended 46 = .ok (.iconst 1, 1) := by decide +kernel
theorem d_M_ended_47 : decode b_M_ended 47 = .ok (.goto 4, 3) := by decide +kernel
theorem d_M_ended_50 : decode b_M_ended 50 = .ok (.iconst 0, 1) := by decide +kernel
theorem d_M_ended_51 : decode b_M_ended 51 = .ok (.ireturn, 1) := by decide +kernel
theorem d_M_ended_52 : decode b_M_ended 52 = .ok (.new 162, 3) := by decide +kernel
theorem d_M_ended_55 : decode b_M_ended 55 = .ok (.dup, 1) := by decide +kernel
theorem d_M_ended_56 : decode b_M_ended 56 = .ok (.ldc 141, 2) := by decide +kernel
theorem d_M_ended_58 : decode b_M_ended 58 = .ok (.invokespecial 166, 3) := by decide +kernel
theorem d_M_ended_61 : decode b_M_ended 61 = .ok (.athrow, 1) := by decide +kernel
theorem d_M_same_0 : decode b_M_same 0 = .ok (.aload_n 0, 1) := by decide +kernel
theorem d_M_same_1 : decode b_M_same 1 = .ok (.iload_n 1, 1) := by decide +kernel
theorem d_M_same_2 : decode b_M_same 2 = .ok (.invokevirtual 64, 3) := by decide +kernel
theorem d_M_same_5 : decode b_M_same 5 = .ok (.astore 6, 2) := by decide +kernel
theorem d_M_same_7 : decode b_M_same 7 = .ok (.aload 6, 2) := by decide +kernel
theorem d_M_same_9 : decode b_M_same 9 = .ok (.getfield 100, 3) := by decide +kernel
theorem d_M_same_12 : decode b_M_same 12 = .ok (.ifCond .eq 15, 3) := by decide +kernel
theorem d_M_same_15 : decode b_M_same 15 = .ok (.aload_n 0, 1) := by decide +kernel
theorem d_M_same_16 : decode b_M_same 16 = .ok (.getfield 19, 3) := by decide +kernel
theorem d_M_same_19 : decode b_M_same 19 = .ok (.aload 6, 2) := by decide +kernel
theorem d_M_same_21 : decode b_M_same 21 = .ok (.invokevirtual 130, 3) := by decide +kernel
theorem d_M_same_24 : decode b_M_same 24 = .ok (.ifCond .eq 13, 3) := by decide +kernel
theorem d_M_same_27 : decode b_M_same 27 = .ok (.new 110, 3) := by decide +kernel
theorem d_M_same_30 : decode b_M_same 30 = .ok (.dup, 1) := by decide +kernel
theorem d_M_same_31 : decode b_M_same 31 = .ok (.ldc 178, 2) := by decide +kernel
theorem d_M_same_33 : decode b_M_same 33 = .ok (.invokespecial 114, 3) := by decide +kernel
theorem d_M_same_36 : decode b_M_same 36 = .ok (.athrow, 1) := by decide +kernel
theorem d_M_same_37 : decode b_M_same 37 = .ok (.aload_n 0, 1) := by decide +kernel
theorem d_M_same_38 : decode b_M_same 38 = .ok (.getfield 30, 3) := by decide +kernel
theorem d_M_same_41 : decode b_M_same 41 = .ok (.aload 6, 2) := by decide +kernel
theorem d_M_same_43 : decode b_M_same 43 = .ok (.lload_n 2, 1) := by decide +kernel
theorem d_M_same_44 : decode b_M_same 44 = .ok (.lload 4, 2) := by decide +kernel
theorem d_M_same_46 : decode b_M_same 46 = .ok (.invokevirtual 150, 3) := by decide +kernel
theorem d_M_same_49 : decode b_M_same 49 = .ok (.aload_n 0, 1) := by decide +kernel
theorem d_M_same_50 : decode b_M_same 50 = .ok (.getfield 33, 3) := by decide +kernel
theorem d_M_same_53 : decode b_M_same 53 = .ok (.aload 6, 2) := by decide +kernel
theorem d_M_same_55 : decode b_M_same 55 = .ok (.lload_n 2, 1) := by decide +kernel
theorem d_M_same_56 : decode b_M_same 56 = .ok (.lload 4, 2) := by decide +kernel
theorem d_M_same_58 : decode b_M_same 58 = .ok (.invokevirtual 146, 3) := by decide +kernel
theorem d_M_same_61 : decode b_M_same 61 = .ok (.aload_n 0, 1) := by decide +kernel
theorem d_M_same_62 : decode b_M_same 62 = .ok (.getfield 30, 3) := by decide +kernel
theorem d_M_same_65 : decode b_M_same 65 = .ok (.aload_n 0, 1) := by decide +kernel
theorem d_M_same_66 : decode b_M_same 66 = .ok (.getfield 33, 3) := by decide +kernel
theorem d_M_same_69 : decode b_M_same 69 = .ok (.invokevirtual 180, 3) := by decide +kernel
theorem d_M_same_72 : decode b_M_same 72 = .ok (.ireturn, 1) := by decide +kernel
