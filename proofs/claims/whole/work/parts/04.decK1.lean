theorem d_K_init_0 : decode b_K_init 0 = .ok (.aload_n 0, 1) := by decide +kernel
theorem d_K_init_1 : decode b_K_init 1 = .ok (.invokespecial 3, 3) := by decide +kernel
theorem d_K_init_4 : decode b_K_init 4 = .ok (.aload_n 0, 1) := by decide +kernel
theorem d_K_init_5 : decode b_K_init 5 = .ok (.sipush 300, 3) := by decide +kernel
theorem d_K_init_8 : decode b_K_init 8 = .ok (.newarray .int, 2) := by decide +kernel
theorem d_K_init_10 : decode b_K_init 10 = .ok (.putfield 9, 3) := by decide +kernel
theorem d_K_init_13 : decode b_K_init 13 = .ok (.return_, 1) := by decide +kernel
theorem d_K_verdictOn_0 : decode b_K_verdictOn 0 = .ok (.aload_n 0, 1) := by decide +kernel
theorem d_K_verdictOn_1 : decode b_K_verdictOn 1 = .ok (.aload_n 1, 1) := by decide +kernel
theorem d_K_verdictOn_2 : decode b_K_verdictOn 2 = .ok (.invokevirtual 15, 3) := by decide +kernel
theorem d_K_verdictOn_5 : decode b_K_verdictOn 5 = .ok (.istore_n 2, 1) := by decide +kernel
theorem d_K_verdictOn_6 : decode b_K_verdictOn 6 = .ok (.iload_n 2, 1) := by decide +kernel
theorem d_K_verdictOn_7 : decode b_K_verdictOn 7 = .ok (.ifCond .ne 11, 3) := by decide +kernel
theorem d_K_verdictOn_10 : decode b_K_verdictOn 10 = .ok (.aload_n 0, 1) := by decide +kernel
theorem d_K_verdictOn_11 : decode b_K_verdictOn 11 = .ok (.aload_n 1, 1) := by decide +kernel
theorem d_K_verdictOn_12 : decode b_K_verdictOn 12 = .ok (.invokevirtual 19, 3) := by decide +kernel
theorem d_K_verdictOn_15 : decode b_K_verdictOn 15 = .ok (.goto 4, 3) := by decide +kernel
theorem d_K_verdictOn_18 : decode b_K_verdictOn 18 = .ok (.iload_n 2, 1) := by decide +kernel
theorem d_K_verdictOn_19 : decode b_K_verdictOn 19 = .ok (.ireturn, 1) := by decide +kernel
theorem d_K_verdictOnCodes_0 : decode b_K_verdictOnCodes 0 = .ok (.aload_n 0, 1) := by decide +kernel
theorem d_K_verdictOnCodes_1 : decode b_K_verdictOnCodes 1 = .ok (.getfield 9, 3) := by decide +kernel
theorem d_K_verdictOnCodes_4 : decode b_K_verdictOnCodes 4 = .ok (.iconst (-1), 1) := by decide +kernel
theorem d_K_verdictOnCodes_5 : decode b_K_verdictOnCodes 5 = .ok (.invokestatic 22, 3) := by decide +kernel
theorem d_K_verdictOnCodes_8 : decode b_K_verdictOnCodes 8 = .ok (.iconst 0, 1) := by decide +kernel
theorem d_K_verdictOnCodes_9 : decode b_K_verdictOnCodes 9 = .ok (.istore_n 2, 1) := by decide +kernel
theorem d_K_verdictOnCodes_10 : decode b_K_verdictOnCodes 10 = .ok (.iconst 0, 1) := by decide +kernel
theorem d_K_verdictOnCodes_11 : decode b_K_verdictOnCodes 11 = .ok (.istore_n 3, 1) := by decide +kernel
theorem d_K_verdictOnCodes_12 : decode b_K_verdictOnCodes 12 = .ok (.iload_n 3, 1) := by decide +kernel
theorem d_K_verdictOnCodes_13 : decode b_K_verdictOnCodes 13 = .ok (.aload_n 1, 1) := by decide +kernel
theorem d_K_verdictOnCodes_14 : decode b_K_verdictOnCodes 14 = .ok (.getfield 28, 3) := by decide +kernel
theorem d_K_verdictOnCodes_17 : decode b_K_verdictOnCodes 17 = .ok (.if_icmp .ge 108, 3) := by decide +kernel
theorem d_K_verdictOnCodes_20 : decode b_K_verdictOnCodes 20 = .ok (.iload_n 3, 1) := by decide +kernel
theorem d_K_verdictOnCodes_21 : decode b_K_verdictOnCodes 21 = .ok (.sipush 300, 3) := by decide +kernel
theorem d_K_verdictOnCodes_24 : decode b_K_verdictOnCodes 24 = .ok (.if_icmp .ge 101, 3) := by decide +kernel
theorem d_K_verdictOnCodes_27 : decode b_K_verdictOnCodes 27 = .ok (.aload_n 1, 1) := by decide +kernel
theorem d_K_verdictOnCodes_28 : decode b_K_verdictOnCodes 28 = .ok (.iload_n 3, 1) := by decide +kernel
theorem d_K_verdictOnCodes_29 : decode b_K_verdictOnCodes 29 = .ok (.invokevirtual 34, 3) := by decide +kernel
theorem d_K_verdictOnCodes_32 : decode b_K_verdictOnCodes 32 = .ok (.istore 4, 2) := by decide +kernel
theorem d_K_verdictOnCodes_34 : decode b_K_verdictOnCodes 34 = .ok (.iload 4, 2) := by decide +kernel
theorem d_K_verdictOnCodes_36 : decode b_K_verdictOnCodes 36 = .ok (.invokestatic 38, 3) := by decide +kernel
theorem d_K_verdictOnCodes_39 : decode b_K_verdictOnCodes 39 = .ok (.istore 5, 2) := by decide +kernel
theorem d_K_verdictOnCodes_41 : decode b_K_verdictOnCodes 41 = .ok (.iload 5, 2) := by decide +kernel
theorem d_K_verdictOnCodes_43 : decode b_K_verdictOnCodes 43 = .ok (.iconst 1, 1) := by decide +kernel
theorem d_K_verdictOnCodes_44 : decode b_K_verdictOnCodes 44 = .ok (.if_icmp .lt 22, 3) := by decide +kernel
theorem d_K_verdictOnCodes_47 : decode b_K_verdictOnCodes 47 = .ok (.aload_n 1, 1) := by decide +kernel
theorem d_K_verdictOnCodes_48 : decode b_K_verdictOnCodes 48 = .ok (.iload_n 3, 1) := by decide +kernel
theorem d_K_verdictOnCodes_49 : decode b_K_verdictOnCodes 49 = .ok (.iload 4, 2) := by decide +kernel
theorem d_K_verdictOnCodes_51 : decode b_K_verdictOnCodes 51 = .ok (.invokestatic 41, 3) := by decide +kernel
theorem d_K_verdictOnCodes_54 : decode b_K_verdictOnCodes 54 = .ok (.ifCond .eq 12, 3) := by decide +kernel
theorem d_K_verdictOnCodes_57 : decode b_K_verdictOnCodes 57 = .ok (.iload_n 2, 1) := by decide +kernel
theorem d_K_verdictOnCodes_58 : decode b_K_verdictOnCodes 58 = .ok (.iload 4, 2) := by decide +kernel
theorem d_K_verdictOnCodes_60 : decode b_K_verdictOnCodes 60 = .ok (.invokestatic 45, 3) := by decide +kernel
theorem d_K_verdictOnCodes_63 : decode b_K_verdictOnCodes 63 = .ok (.if_icmp .ge 8, 3) := by decide +kernel
theorem d_K_verdictOnCodes_66 : decode b_K_verdictOnCodes 66 = .ok (.iload_n 3, 1) := by decide +kernel
theorem d_K_verdictOnCodes_67 : decode b_K_verdictOnCodes 67 = .ok (.invokestatic 48, 3) := by decide +kernel
theorem d_K_verdictOnCodes_70 : decode b_K_verdictOnCodes 70 = .ok (.ireturn, 1) := by decide +kernel
theorem d_K_verdictOnCodes_71 : decode b_K_verdictOnCodes 71 = .ok (.aload_n 0, 1) := by decide +kernel
theorem d_K_verdictOnCodes_72 : decode b_K_verdictOnCodes 72 = .ok (.getfield 9, 3) := by decide +kernel
theorem d_K_verdictOnCodes_75 : decode b_K_verdictOnCodes 75 = .ok (.iload_n 3, 1) := by decide +kernel
theorem d_K_verdictOnCodes_76 : decode b_K_verdictOnCodes 76 = .ok (.iload_n 2, 1) := by decide +kernel
theorem d_K_verdictOnCodes_77 : decode b_K_verdictOnCodes 77 = .ok (.iastore, 1) := by decide +kernel
theorem d_K_verdictOnCodes_78 : decode b_K_verdictOnCodes 78 = .ok (.iload 4, 2) := by decide +kernel
theorem d_K_verdictOnCodes_80 : decode b_K_verdictOnCodes 80 = .ok (.bipush 10, 2) := by decide +kernel
theorem d_K_verdictOnCodes_82 : decode b_K_verdictOnCodes 82 = .ok (.if_icmp .ne 11, 3) := by decide +kernel
theorem d_K_verdictOnCodes_85 : decode b_K_verdictOnCodes 85 = .ok (.aload_n 0, 1) := by decide +kernel
theorem d_K_verdictOnCodes_86 : decode b_K_verdictOnCodes 86 = .ok (.aload_n 1, 1) := by decide +kernel
theorem d_K_verdictOnCodes_87 : decode b_K_verdictOnCodes 87 = .ok (.iload_n 3, 1) := by decide +kernel
theorem d_K_verdictOnCodes_88 : decode b_K_verdictOnCodes 88 = .ok (.iload_n 2, 1) := by decide +kernel
theorem d_K_verdictOnCodes_89 : decode b_K_verdictOnCodes 89 = .ok (.invokevirtual 51, 3) := by decide +kernel
theorem d_K_verdictOnCodes_92 : decode b_K_verdictOnCodes 92 = .ok (.ireturn, 1) := by decide +kernel
theorem d_K_verdictOnCodes_93 : decode b_K_verdictOnCodes 93 = .ok (.iload_n 2, 1) := by decide +kernel
theorem d_K_verdictOnCodes_94 : decode b_K_verdictOnCodes 94 = .ok (.iload 4, 2) := by decide +kernel
theorem d_K_verdictOnCodes_96 : decode b_K_verdictOnCodes 96 = .ok (.invokestatic 45, 3) := by decide +kernel
theorem d_K_verdictOnCodes_99 : decode b_K_verdictOnCodes 99 = .ok (.isub, 1) := by decide +kernel
theorem d_K_verdictOnCodes_100 : decode b_K_verdictOnCodes 100 = .ok (.iload 4, 2) := by decide +kernel
theorem d_K_verdictOnCodes_102 : decode b_K_verdictOnCodes 102 = .ok (.invokestatic 55, 3) := by decide +kernel
theorem d_K_verdictOnCodes_105 : decode b_K_verdictOnCodes 105 = .ok (.iadd, 1) := by decide +kernel
theorem d_K_verdictOnCodes_106 : decode b_K_verdictOnCodes 106 = .ok (.istore_n 2, 1) := by decide +kernel
theorem d_K_verdictOnCodes_107 : decode b_K_verdictOnCodes 107 = .ok (.iload_n 2, 1) := by decide +kernel
theorem d_K_verdictOnCodes_108 : decode b_K_verdictOnCodes 108 = .ok (.iconst 4, 1) := by decide +kernel
theorem d_K_verdictOnCodes_109 : decode b_K_verdictOnCodes 109 = .ok (.if_icmp .le 8, 3) := by decide +kernel
theorem d_K_verdictOnCodes_112 : decode b_K_verdictOnCodes 112 = .ok (.iload_n 3, 1) := by decide +kernel
theorem d_K_verdictOnCodes_113 : decode b_K_verdictOnCodes 113 = .ok (.invokestatic 48, 3) := by decide +kernel
theorem d_K_verdictOnCodes_116 : decode b_K_verdictOnCodes 116 = .ok (.ireturn, 1) := by decide +kernel
theorem d_K_verdictOnCodes_117 : decode b_K_verdictOnCodes 117 = .ok (.iload_n 3, 1) := by decide +kernel
theorem d_K_verdictOnCodes_118 : decode b_K_verdictOnCodes 118 = .ok (.iload 5, 2) := by decide +kernel
theorem d_K_verdictOnCodes_120 : decode b_K_verdictOnCodes 120 = .ok (.iadd, 1) := by decide +kernel
theorem d_K_verdictOnCodes_121 : decode b_K_verdictOnCodes 121 = .ok (.istore_n 3, 1) := by decide +kernel
theorem d_K_verdictOnCodes_122 : decode b_K_verdictOnCodes 122 = .ok (.goto (-110), 3) := by decide +kernel
theorem d_K_verdictOnCodes_125 : decode b_K_verdictOnCodes 125 = .ok (.aload_n 1, 1) := by decide +kernel
theorem d_K_verdictOnCodes_126 : decode b_K_verdictOnCodes 126 = .ok (.getfield 28, 3) := by decide +kernel
theorem d_K_verdictOnCodes_129 : decode b_K_verdictOnCodes 129 = .ok (.invokestatic 48, 3) := by decide +kernel
theorem d_K_verdictOnCodes_132 : decode b_K_verdictOnCodes 132 = .ok (.ireturn, 1) := by decide +kernel
theorem d_K_standsWhole_0 : decode b_K_standsWhole 0 = .ok (.iload_n 1, 1) := by decide +kernel
theorem d_K_standsWhole_1 : decode b_K_standsWhole 1 = .ok (.iload_n 2, 1) := by decide +kernel
theorem d_K_standsWhole_2 : decode b_K_standsWhole 2 = .ok (.invokestatic 38, 3) := by decide +kernel
theorem d_K_standsWhole_5 : decode b_K_standsWhole 5 = .ok (.iadd, 1) := by decide +kernel
theorem d_K_standsWhole_6 : decode b_K_standsWhole 6 = .ok (.aload_n 0, 1) := by decide +kernel
theorem d_K_standsWhole_7 : decode b_K_standsWhole 7 = .ok (.getfield 28, 3) := by decide +kernel
theorem d_K_standsWhole_10 : decode b_K_standsWhole 10 = .ok (.if_icmp .le 5, 3) := by decide +kernel
theorem d_K_standsWhole_13 : decode b_K_standsWhole 13 = .ok (.iconst 0, 1) := by decide +kernel
theorem d_K_standsWhole_14 : decode b_K_standsWhole 14 = .ok (.ireturn, 1) := by decide +kernel
theorem d_K_standsWhole_15 : decode b_K_standsWhole 15 = .ok (.iload_n 2, 1) := by decide +kernel
theorem d_K_standsWhole_16 : decode b_K_standsWhole 16 = .ok (.iconst 1, 1) := by decide +kernel
theorem d_K_standsWhole_17 : decode b_K_standsWhole 17 = .ok (.if_icmp .eq 8, 3) := by decide +kernel
theorem d_K_standsWhole_20 : decode b_K_standsWhole 20 = .ok (.iload_n 2, 1) := by decide +kernel
theorem d_K_standsWhole_21 : decode b_K_standsWhole 21 = .ok (.iconst 2, 1) := by decide +kernel
theorem d_K_standsWhole_22 : decode b_K_standsWhole 22 = .ok (.if_icmp .ne 7, 3) := by decide +kernel
theorem d_K_standsWhole_25 : decode b_K_standsWhole 25 = .ok (.iconst 1, 1) := by decide +kernel
theorem d_K_standsWhole_26 : decode b_K_standsWhole 26 = .ok (.goto 4, 3) := by decide +kernel
theorem d_K_standsWhole_29 : decode b_K_standsWhole 29 = .ok (.iconst 0, 1) := by decide +kernel
theorem d_K_standsWhole_30 : decode b_K_standsWhole 30 = .ok (.istore_n 3, 1) := by decide +kernel
theorem d_K_standsWhole_31 : decode b_K_standsWhole 31 = .ok (.iload_n 3, 1) := by decide +kernel
theorem d_K_standsWhole_32 : decode b_K_standsWhole 32 = .ok (.ifCond .eq 16, 3) := by decide +kernel
theorem d_K_standsWhole_35 : decode b_K_standsWhole 35 = .ok (.aload_n 0, 1) := by decide +kernel
theorem d_K_standsWhole_36 : decode b_K_standsWhole 36 = .ok (.iload_n 1, 1) := by decide +kernel
theorem d_K_standsWhole_37 : decode b_K_standsWhole 37 = .ok (.iconst 1, 1) := by decide +kernel
theorem d_K_standsWhole_38 : decode b_K_standsWhole 38 = .ok (.iadd, 1) := by decide +kernel
theorem d_K_standsWhole_39 : decode b_K_standsWhole 39 = .ok (.invokevirtual 34, 3) := by decide +kernel
theorem d_K_standsWhole_42 : decode b_K_standsWhole 42 = .ok (.invokestatic 65, 3) := by decide +kernel
theorem d_K_standsWhole_45 : decode b_K_standsWhole 45 = .ok (.ifCond .eq 7, 3) := by decide +kernel
theorem d_K_standsWhole_48 : decode b_K_standsWhole 48 = .ok (.iconst 1, 1) := by decide +kernel
theorem d_K_standsWhole_49 : decode b_K_standsWhole 49 = .ok (.goto 4, 3) := by decide +kernel
theorem d_K_standsWhole_52 : decode b_K_standsWhole 52 = .ok (.iconst 0, 1) := by decide +kernel
theorem d_K_standsWhole_53 : decode b_K_standsWhole 53 = .ok (.ireturn, 1) := by decide +kernel
theorem d_K_takenBy_0 : decode b_K_takenBy 0 = .ok (.iload_n 0, 1) := by decide +kernel
theorem d_K_takenBy_1 : decode b_K_takenBy 1 = .ok (.tableswitch 51 2 9 #[47, 51, 49, 49, 49, 49, 49, 47], 47) := by decide +kernel
theorem d_K_takenBy_48 : decode b_K_takenBy 48 = .ok (.iconst 1, 1) := by decide +kernel
theorem d_K_takenBy_49 : decode b_K_takenBy 49 = .ok (.ireturn, 1) := by decide +kernel
theorem d_K_takenBy_50 : decode b_K_takenBy 50 = .ok (.iconst 2, 1) := by decide +kernel
theorem d_K_takenBy_51 : decode b_K_takenBy 51 = .ok (.ireturn, 1) := by decide +kernel
theorem d_K_takenBy_52 : decode b_K_takenBy 52 = .ok (.iconst 0, 1) := by decide +kernel
theorem d_K_takenBy_53 : decode b_K_takenBy 53 = .ok (.ireturn, 1) := by decide +kernel
theorem d_K_wrongAt_0 : decode b_K_wrongAt 0 = .ok (.iconst 1, 1) := by decide +kernel
theorem d_K_wrongAt_1 : decode b_K_wrongAt 1 = .ok (.iload_n 0, 1) := by decide +kernel
theorem d_K_wrongAt_2 : decode b_K_wrongAt 2 = .ok (.iadd, 1) := by decide +kernel
theorem d_K_wrongAt_3 : decode b_K_wrongAt 3 = .ok (.ireturn, 1) := by decide +kernel
theorem d_K_verdictOnEnd_0 : decode b_K_verdictOnEnd 0 = .ok (.iload_n 3, 1) := by decide +kernel
theorem d_K_verdictOnEnd_1 : decode b_K_verdictOnEnd 1 = .ok (.ifCond .eq 8, 3) := by decide +kernel
theorem d_K_verdictOnEnd_4 : decode b_K_verdictOnEnd 4 = .ok (.iload_n 2, 1) := by decide +kernel
theorem d_K_verdictOnEnd_5 : decode b_K_verdictOnEnd 5 = .ok (.invokestatic 48, 3) := by decide +kernel
theorem d_K_verdictOnEnd_8 : decode b_K_verdictOnEnd 8 = .ok (.ireturn, 1) := by decide +kernel
theorem d_K_verdictOnEnd_9 : decode b_K_verdictOnEnd 9 = .ok (.iload_n 2, 1) := by decide +kernel
theorem d_K_verdictOnEnd_10 : decode b_K_verdictOnEnd 10 = .ok (.iconst 1, 1) := by decide +kernel
theorem d_K_verdictOnEnd_11 : decode b_K_verdictOnEnd 11 = .ok (.iadd, 1) := by decide +kernel
theorem d_K_verdictOnEnd_12 : decode b_K_verdictOnEnd 12 = .ok (.aload_n 1, 1) := by decide +kernel
theorem d_K_verdictOnEnd_13 : decode b_K_verdictOnEnd 13 = .ok (.getfield 28, 3) := by decide +kernel
theorem d_K_verdictOnEnd_16 : decode b_K_verdictOnEnd 16 = .ok (.if_icmp .ge 12, 3) := by decide +kernel
theorem d_K_verdictOnEnd_19 : decode b_K_verdictOnEnd 19 = .ok (.iload_n 2, 1) := by decide +kernel
theorem d_K_verdictOnEnd_20 : decode b_K_verdictOnEnd 20 = .ok (.iconst 1, 1) := by decide +kernel
theorem d_K_verdictOnEnd_21 : decode b_K_verdictOnEnd 21 = .ok (.iadd, 1) := by decide +kernel
theorem d_K_verdictOnEnd_22 : decode b_K_verdictOnEnd 22 = .ok (.invokestatic 48, 3) := by decide +kernel
theorem d_K_verdictOnEnd_25 : decode b_K_verdictOnEnd 25 = .ok (.goto 4, 3) := by decide +kernel
theorem d_K_verdictOnEnd_28 : decode b_K_verdictOnEnd 28 = .ok (.iconst 0, 1) := by decide +kernel
theorem d_K_verdictOnEnd_29 : decode b_K_verdictOnEnd 29 = .ok (.ireturn, 1) := by decide +kernel
theorem d_K_addedBy_0 : decode b_K_addedBy 0 = .ok (.iload_n 0, 1) := by decide +kernel
theorem d_K_addedBy_1 : decode b_K_addedBy 1 = .ok (.lookupswitch 37 #[(2, 35), (9, 35), (10, 35)], 35) := by decide +kernel
theorem d_K_addedBy_36 : decode b_K_addedBy 36 = .ok (.iconst 0, 1) := by decide +kernel
theorem d_K_addedBy_37 : decode b_K_addedBy 37 = .ok (.ireturn, 1) := by decide +kernel
theorem d_K_addedBy_38 : decode b_K_addedBy 38 = .ok (.iconst 1, 1) := by decide +kernel
theorem d_K_addedBy_39 : decode b_K_addedBy 39 = .ok (.ireturn, 1) := by decide +kernel
theorem d_K_verdictOnBranches_0 : decode b_K_verdictOnBranches 0 = .ok (.iconst 0, 1) := by decide +kernel
theorem d_K_verdictOnBranches_1 : decode b_K_verdictOnBranches 1 = .ok (.istore_n 2, 1) := by decide +kernel
theorem d_K_verdictOnBranches_2 : decode b_K_verdictOnBranches 2 = .ok (.iload_n 2, 1) := by decide +kernel
theorem d_K_verdictOnBranches_3 : decode b_K_verdictOnBranches 3 = .ok (.aload_n 1, 1) := by decide +kernel
theorem d_K_verdictOnBranches_4 : decode b_K_verdictOnBranches 4 = .ok (.getfield 28, 3) := by decide +kernel
theorem d_K_verdictOnBranches_7 : decode b_K_verdictOnBranches 7 = .ok (.if_icmp .ge 79, 3) := by decide +kernel
theorem d_K_verdictOnBranches_10 : decode b_K_verdictOnBranches 10 = .ok (.iload_n 2, 1) := by decide +kernel
theorem d_K_verdictOnBranches_11 : decode b_K_verdictOnBranches 11 = .ok (.sipush 300, 3) := by decide +kernel
theorem d_K_verdictOnBranches_14 : decode b_K_verdictOnBranches 14 = .ok (.if_icmp .ge 72, 3) := by decide +kernel
theorem d_K_verdictOnBranches_17 : decode b_K_verdictOnBranches 17 = .ok (.aload_n 0, 1) := by decide +kernel
theorem d_K_verdictOnBranches_18 : decode b_K_verdictOnBranches 18 = .ok (.getfield 9, 3) := by decide +kernel
theorem d_K_verdictOnBranches_21 : decode b_K_verdictOnBranches 21 = .ok (.iload_n 2, 1) := by decide +kernel
theorem d_K_verdictOnBranches_22 : decode b_K_verdictOnBranches 22 = .ok (.iaload, 1) := by decide +kernel
theorem d_K_verdictOnBranches_23 : decode b_K_verdictOnBranches 23 = .ok (.iconst (-1), 1) := by decide +kernel
theorem d_K_verdictOnBranches_24 : decode b_K_verdictOnBranches 24 = .ok (.if_icmp .eq 17, 3) := by decide +kernel
theorem d_K_verdictOnBranches_27 : decode b_K_verdictOnBranches 27 = .ok (.aload_n 1, 1) := by decide +kernel
theorem d_K_verdictOnBranches_28 : decode b_K_verdictOnBranches 28 = .ok (.iload_n 2, 1) := by decide +kernel
theorem d_K_verdictOnBranches_29 : decode b_K_verdictOnBranches 29 = .ok (.invokevirtual 34, 3) := by decide +kernel
theorem d_K_verdictOnBranches_32 : decode b_K_verdictOnBranches 32 = .ok (.bipush 9, 2) := by decide +kernel
theorem d_K_verdictOnBranches_34 : decode b_K_verdictOnBranches 34 = .ok (.if_icmp .ne 7, 3) := by decide +kernel
theorem d_K_verdictOnBranches_37 : decode b_K_verdictOnBranches 37 = .ok (.iconst 1, 1) := by decide +kernel
theorem d_K_verdictOnBranches_38 : decode b_K_verdictOnBranches 38 = .ok (.goto 4, 3) := by decide +kernel
theorem d_K_verdictOnBranches_41 : decode b_K_verdictOnBranches 41 = .ok (.iconst 0, 1) := by decide +kernel
theorem d_K_verdictOnBranches_42 : decode b_K_verdictOnBranches 42 = .ok (.istore_n 3, 1) := by decide +kernel
theorem d_K_verdictOnBranches_43 : decode b_K_verdictOnBranches 43 = .ok (.iload_n 3, 1) := by decide +kernel
theorem d_K_verdictOnBranches_44 : decode b_K_verdictOnBranches 44 = .ok (.ifCond .eq 36, 3) := by decide +kernel
theorem d_K_verdictOnBranches_47 : decode b_K_verdictOnBranches 47 = .ok (.aload_n 0, 1) := by decide +kernel
theorem d_K_verdictOnBranches_48 : decode b_K_verdictOnBranches 48 = .ok (.getfield 9, 3) := by decide +kernel
theorem d_K_verdictOnBranches_51 : decode b_K_verdictOnBranches 51 = .ok (.iload_n 2, 1) := by decide +kernel
theorem d_K_verdictOnBranches_52 : decode b_K_verdictOnBranches 52 = .ok (.iaload, 1) := by decide +kernel
theorem d_K_verdictOnBranches_53 : decode b_K_verdictOnBranches 53 = .ok (.bipush 9, 2) := by decide +kernel
theorem d_K_verdictOnBranches_55 : decode b_K_verdictOnBranches 55 = .ok (.invokestatic 45, 3) := by decide +kernel
theorem d_K_verdictOnBranches_58 : decode b_K_verdictOnBranches 58 = .ok (.if_icmp .ne 17, 3) := by decide +kernel
theorem d_K_verdictOnBranches_61 : decode b_K_verdictOnBranches 61 = .ok (.aload_n 0, 1) := by decide +kernel
theorem d_K_verdictOnBranches_62 : decode b_K_verdictOnBranches 62 = .ok (.aload_n 1, 1) := by decide +kernel
theorem d_K_verdictOnBranches_63 : decode b_K_verdictOnBranches 63 = .ok (.iload_n 2, 1) := by decide +kernel
theorem d_K_verdictOnBranches_64 : decode b_K_verdictOnBranches 64 = .ok (.iconst 1, 1) := by decide +kernel
theorem d_K_verdictOnBranches_65 : decode b_K_verdictOnBranches 65 = .ok (.iadd, 1) := by decide +kernel
theorem d_K_verdictOnBranches_66 : decode b_K_verdictOnBranches 66 = .ok (.invokevirtual 58, 3) := by decide +kernel
theorem d_K_verdictOnBranches_69 : decode b_K_verdictOnBranches 69 = .ok (.invokevirtual 61, 3) := by decide +kernel
theorem d_K_verdictOnBranches_72 : decode b_K_verdictOnBranches 72 = .ok (.ifCond .ne 8, 3) := by decide +kernel
theorem d_K_verdictOnBranches_75 : decode b_K_verdictOnBranches 75 = .ok (.iload_n 2, 1) := by decide +kernel
theorem d_K_verdictOnBranches_76 : decode b_K_verdictOnBranches 76 = .ok (.invokestatic 48, 3) := by decide +kernel
theorem d_K_verdictOnBranches_79 : decode b_K_verdictOnBranches 79 = .ok (.ireturn, 1) := by decide +kernel
theorem d_K_verdictOnBranches_80 : decode b_K_verdictOnBranches 80 = .ok (.iinc 2 1, 3) := by decide +kernel
theorem d_K_verdictOnBranches_83 : decode b_K_verdictOnBranches 83 = .ok (.goto (-81), 3) := by decide +kernel
theorem d_K_verdictOnBranches_86 : decode b_K_verdictOnBranches 86 = .ok (.iconst 0, 1) := by decide +kernel
theorem d_K_verdictOnBranches_87 : decode b_K_verdictOnBranches 87 = .ok (.ireturn, 1) := by decide +kernel
theorem d_K_isGoal_0 : decode b_K_isGoal 0 = .ok (.iload_n 1, 1) := by decide +kernel
theorem d_K_isGoal_1 : decode b_K_isGoal 1 = .ok (.ifCond .lt 23, 3) := by decide +kernel
theorem d_K_isGoal_4 : decode b_K_isGoal 4 = .ok (.iload_n 1, 1) := by decide +kernel
theorem d_K_isGoal_5 : decode b_K_isGoal 5 = .ok (.sipush 300, 3) := by decide +kernel
theorem d_K_isGoal_8 : decode b_K_isGoal 8 = .ok (.if_icmp .ge 16, 3) := by decide +kernel
theorem d_K_isGoal_11 : decode b_K_isGoal 11 = .ok (.aload_n 0, 1) := by decide +kernel
theorem d_K_isGoal_12 : decode b_K_isGoal 12 = .ok (.getfield 9, 3) := by decide +kernel
theorem d_K_isGoal_15 : decode b_K_isGoal 15 = .ok (.iload_n 1, 1) := by decide +kernel
theorem d_K_isGoal_16 : decode b_K_isGoal 16 = .ok (.iaload, 1) := by decide +kernel
theorem d_K_isGoal_17 : decode b_K_isGoal 17 = .ok (.ifCond .ne 7, 3) := by decide +kernel
theorem d_K_isGoal_20 : decode b_K_isGoal 20 = .ok (.iconst 1, 1) := by decide +kernel
theorem d_K_isGoal_21 : decode b_K_isGoal 21 = .ok (.goto 4, 3) := by decide +kernel
theorem d_K_isGoal_24 : decode b_K_isGoal 24 = .ok (.iconst 0, 1) := by decide +kernel
theorem d_K_isGoal_25 : decode b_K_isGoal 25 = .ok (.ireturn, 1) := by decide +kernel
