theorem d_Z_border_28 : decode b_Z_border 28 = .ok (.iload_n 2, 1) := by decide +kernel
theorem d_Z_border_29 : decode b_Z_border 29 = .ok (.invokevirtual 114, 3) := by decide +kernel
theorem d_Z_border_32 : decode b_Z_border 32 = .ok (.ifCond .ne 7, 3) := by decide +kernel
theorem d_Z_border_35 : decode b_Z_border 35 = .ok (.iconst 1, 1) := by decide +kernel
theorem d_Z_border_36 : decode b_Z_border 36 = .ok (.goto 4, 3) := by decide +kernel
theorem d_Z_border_39 : decode b_Z_border 39 = .ok (.iconst 0, 1) := by decide +kernel
theorem d_Z_border_40 : decode b_Z_border 40 = .ok (.istore_n 3, 1) := by decide +kernel
theorem d_Z_border_41 : decode b_Z_border 41 = .ok (.aload_n 0, 1) := by decide +kernel
theorem d_Z_border_42 : decode b_Z_border 42 = .ok (.getfield 22, 3) := by decide +kernel
theorem d_Z_border_45 : decode b_Z_border 45 = .ok (.iload_n 2, 1) := by decide +kernel
theorem d_Z_border_46 : decode b_Z_border 46 = .ok (.iload_n 3, 1) := by decide +kernel
theorem d_Z_border_47 : decode b_Z_border 47 = .ok (.ifCond .eq 7, 3) := by decide +kernel
theorem d_Z_border_50 : decode b_Z_border 50 = .ok (.iconst 2, 1) := by decide +kernel
theorem d_Z_border_51 : decode b_Z_border 51 = .ok (.goto 4, 3) := by decide +kernel
theorem d_Z_border_54 : decode b_Z_border 54 = .ok (.iconst 0, 1) := by decide +kernel
theorem d_Z_border_55 : decode b_Z_border 55 = .ok (.iastore, 1) := by decide +kernel
theorem d_Z_border_56 : decode b_Z_border 56 = .ok (.iload_n 1, 1) := by decide +kernel
theorem d_Z_border_57 : decode b_Z_border 57 = .ok (.iload_n 3, 1) := by decide +kernel
theorem d_Z_border_58 : decode b_Z_border 58 = .ok (.ifCond .eq 7, 3) := by decide +kernel
theorem d_Z_border_61 : decode b_Z_border 61 = .ok (.iconst 1, 1) := by decide +kernel
theorem d_Z_border_62 : decode b_Z_border 62 = .ok (.goto 4, 3) := by decide +kernel
theorem d_Z_border_65 : decode b_Z_border 65 = .ok (.iconst 0, 1) := by decide +kernel
theorem d_Z_border_66 : decode b_Z_border 66 = .ok (.iadd, 1) := by decide +kernel
theorem d_Z_border_67 : decode b_Z_border 67 = .ok (.istore_n 1, 1) := by decide +kernel
theorem d_Z_border_68 : decode b_Z_border 68 = .ok (.aload_n 0, 1) := by decide +kernel
theorem d_Z_border_69 : decode b_Z_border 69 = .ok (.dup, 1) := by decide +kernel
theorem d_Z_border_70 : decode b_Z_border 70 = .ok (.getfield 117, 3) := by decide +kernel
theorem d_Z_border_73 : decode b_Z_border 73 = .ok (.iload_n 3, 1) := by decide +kernel
theorem d_Z_border_74 : decode b_Z_border 74 = .ok (.ifCond .eq 7, 3) := by decide +kernel
theorem d_Z_border_77 : decode b_Z_border 77 = .ok (.iconst 0, 1) := by decide +kernel
theorem d_Z_border_78 : decode b_Z_border 78 = .ok (.goto 4, 3) := by decide +kernel
theorem d_Z_border_81 : decode b_Z_border 81 = .ok (.iconst 1, 1) := by decide +kernel
theorem d_Z_border_82 : decode b_Z_border 82 = .ok (.iadd, 1) := by decide +kernel
theorem d_Z_border_83 : decode b_Z_border 83 = .ok (.putfield 117, 3) := by decide +kernel
theorem d_Z_border_86 : decode b_Z_border 86 = .ok (.iinc 2 1, 3) := by decide +kernel
theorem d_Z_border_89 : decode b_Z_border 89 = .ok (.goto (-80), 3) := by decide +kernel
theorem d_Z_border_92 : decode b_Z_border 92 = .ok (.iload_n 1, 1) := by decide +kernel
theorem d_Z_border_93 : decode b_Z_border 93 = .ok (.ireturn, 1) := by decide +kernel
theorem d_Z_what_0 : decode b_Z_what 0 = .ok (.aload_n 0, 1) := by decide +kernel
theorem d_Z_what_1 : decode b_Z_what 1 = .ok (.iload_n 1, 1) := by decide +kernel
theorem d_Z_what_2 : decode b_Z_what 2 = .ok (.invokevirtual 71, 3) := by decide +kernel
theorem d_Z_what_5 : decode b_Z_what 5 = .ok (.ifCond .ne 5, 3) := by decide +kernel
theorem d_Z_what_8 : decode b_Z_what 8 = .ok (.iconst 0, 1) := by decide +kernel
theorem d_Z_what_9 : decode b_Z_what 9 = .ok (.ireturn, 1) := by decide +kernel
theorem d_Z_what_10 : decode b_Z_what 10 = .ok (.iload_n 2, 1) := by decide +kernel
theorem d_Z_what_11 : decode b_Z_what 11 = .ok (.tableswitch 83 0 3 #[29, 36, 56, 63], 29) := by decide +kernel
theorem d_Z_what_40 : decode b_Z_what 40 = .ok (.aload_n 0, 1) := by decide +kernel
theorem d_Z_what_41 : decode b_Z_what 41 = .ok (.getfield 22, 3) := by decide +kernel
theorem d_Z_what_44 : decode b_Z_what 44 = .ok (.iload_n 1, 1) := by decide +kernel
theorem d_Z_what_45 : decode b_Z_what 45 = .ok (.iaload, 1) := by decide +kernel
theorem d_Z_what_46 : decode b_Z_what 46 = .ok (.ireturn, 1) := by decide +kernel
theorem d_Z_what_47 : decode b_Z_what 47 = .ok (.aload_n 0, 1) := by decide +kernel
theorem d_Z_what_48 : decode b_Z_what 48 = .ok (.getfield 22, 3) := by decide +kernel
theorem d_Z_what_51 : decode b_Z_what 51 = .ok (.iload_n 1, 1) := by decide +kernel
theorem d_Z_what_52 : decode b_Z_what 52 = .ok (.iaload, 1) := by decide +kernel
theorem d_Z_what_53 : decode b_Z_what 53 = .ok (.ifCond .ne 7, 3) := by decide +kernel
theorem d_Z_what_56 : decode b_Z_what 56 = .ok (.iconst (-1), 1) := by decide +kernel
theorem d_Z_what_57 : decode b_Z_what 57 = .ok (.goto 9, 3) := by decide +kernel
theorem d_Z_what_60 : decode b_Z_what 60 = .ok (.aload_n 0, 1) := by decide +kernel
theorem d_Z_what_61 : decode b_Z_what 61 = .ok (.getfield 25, 3) := by decide +kernel
theorem d_Z_what_64 : decode b_Z_what 64 = .ok (.iload_n 1, 1) := by decide +kernel
theorem d_Z_what_65 : decode b_Z_what 65 = .ok (.iaload, 1) := by decide +kernel
theorem d_Z_what_66 : decode b_Z_what 66 = .ok (.ireturn, 1) := by decide +kernel
theorem d_Z_what_67 : decode b_Z_what 67 = .ok (.aload_n 0, 1) := by decide +kernel
theorem d_Z_what_68 : decode b_Z_what 68 = .ok (.getfield 7, 3) := by decide +kernel
theorem d_Z_what_71 : decode b_Z_what 71 = .ok (.iload_n 1, 1) := by decide +kernel
theorem d_Z_what_72 : decode b_Z_what 72 = .ok (.iaload, 1) := by decide +kernel
theorem d_Z_what_73 : decode b_Z_what 73 = .ok (.ireturn, 1) := by decide +kernel
theorem d_Z_what_74 : decode b_Z_what 74 = .ok (.aload_n 0, 1) := by decide +kernel
theorem d_Z_what_75 : decode b_Z_what 75 = .ok (.getfield 22, 3) := by decide +kernel
theorem d_Z_what_78 : decode b_Z_what 78 = .ok (.iload_n 1, 1) := by decide +kernel
theorem d_Z_what_79 : decode b_Z_what 79 = .ok (.iaload, 1) := by decide +kernel
theorem d_Z_what_80 : decode b_Z_what 80 = .ok (.ifCond .ne 7, 3) := by decide +kernel
theorem d_Z_what_83 : decode b_Z_what 83 = .ok (.iconst 0, 1) := by decide +kernel
theorem d_Z_what_84 : decode b_Z_what 84 = .ok (.goto 9, 3) := by decide +kernel
theorem d_Z_what_87 : decode b_Z_what 87 = .ok (.aload_n 0, 1) := by decide +kernel
theorem d_Z_what_88 : decode b_Z_what 88 = .ok (.getfield 28, 3) := by decide +kernel
theorem d_Z_what_91 : decode b_Z_what 91 = .ok (.iload_n 1, 1) := by decide +kernel
theorem d_Z_what_92 : decode b_Z_what 92 = .ok (.iaload, 1) := by decide +kernel
theorem d_Z_what_93 : decode b_Z_what 93 = .ok (.ireturn, 1) := by decide +kernel
theorem d_Z_what_94 : decode b_Z_what 94 = .ok (.aload_n 0, 1) := by decide +kernel
theorem d_Z_what_95 : decode b_Z_what 95 = .ok (.iconst 2, 1) := by decide +kernel
theorem d_Z_what_96 : decode b_Z_what 96 = .ok (.invokevirtual 67, 3) := by decide +kernel
theorem d_Z_what_99 : decode b_Z_what 99 = .ok (.ireturn, 1) := by decide +kernel
theorem d_Z_next_0 : decode b_Z_next 0 = .ok (.aload_n 0, 1) := by decide +kernel
theorem d_Z_next_1 : decode b_Z_next 1 = .ok (.iconst 0, 1) := by decide +kernel
theorem d_Z_next_2 : decode b_Z_next 2 = .ok (.putfield 57, 3) := by decide +kernel
theorem d_Z_next_5 : decode b_Z_next 5 = .ok (.aload_n 0, 1) := by decide +kernel
theorem d_Z_next_6 : decode b_Z_next 6 = .ok (.dup, 1) := by decide +kernel
theorem d_Z_next_7 : decode b_Z_next 7 = .ok (.getfield 96, 3) := by decide +kernel
theorem d_Z_next_10 : decode b_Z_next 10 = .ok (.iconst 1, 1) := by decide +kernel
theorem d_Z_next_11 : decode b_Z_next 11 = .ok (.iadd, 1) := by decide +kernel
theorem d_Z_next_12 : decode b_Z_next 12 = .ok (.putfield 96, 3) := by decide +kernel
theorem d_Z_next_15 : decode b_Z_next 15 = .ok (.iconst 0, 1) := by decide +kernel
theorem d_Z_next_16 : decode b_Z_next 16 = .ok (.istore_n 1, 1) := by decide +kernel
theorem d_Z_next_17 : decode b_Z_next 17 = .ok (.iconst 0, 1) := by decide +kernel
theorem d_Z_next_18 : decode b_Z_next 18 = .ok (.istore_n 2, 1) := by decide +kernel
theorem d_Z_next_19 : decode b_Z_next 19 = .ok (.iload_n 2, 1) := by decide +kernel
theorem d_Z_next_20 : decode b_Z_next 20 = .ok (.aload_n 0, 1) := by decide +kernel
theorem d_Z_next_21 : decode b_Z_next 21 = .ok (.getfield 60, 3) := by decide +kernel
theorem d_Z_next_24 : decode b_Z_next 24 = .ok (.if_icmp .ge 41, 3) := by decide +kernel
theorem d_Z_next_27 : decode b_Z_next 27 = .ok (.aload_n 0, 1) := by decide +kernel
theorem d_Z_next_28 : decode b_Z_next 28 = .ok (.getfield 22, 3) := by decide +kernel
theorem d_Z_next_31 : decode b_Z_next 31 = .ok (.iload_n 2, 1) := by decide +kernel
theorem d_Z_next_32 : decode b_Z_next 32 = .ok (.iaload, 1) := by decide +kernel
theorem d_Z_next_33 : decode b_Z_next 33 = .ok (.ifCond .le 26, 3) := by decide +kernel
theorem d_Z_next_36 : decode b_Z_next 36 = .ok (.aload_n 0, 1) := by decide +kernel
theorem d_Z_next_37 : decode b_Z_next 37 = .ok (.getfield 25, 3) := by decide +kernel
theorem d_Z_next_40 : decode b_Z_next 40 = .ok (.iload_n 2, 1) := by decide +kernel
theorem d_Z_next_41 : decode b_Z_next 41 = .ok (.iaload, 1) := by decide +kernel
theorem d_Z_next_42 : decode b_Z_next 42 = .ok (.aload_n 0, 1) := by decide +kernel
theorem d_Z_next_43 : decode b_Z_next 43 = .ok (.invokevirtual 120, 3) := by decide +kernel
theorem d_Z_next_46 : decode b_Z_next 46 = .ok (.if_icmp .ge 13, 3) := by decide +kernel
theorem d_Z_next_49 : decode b_Z_next 49 = .ok (.aload_n 0, 1) := by decide +kernel
theorem d_Z_next_50 : decode b_Z_next 50 = .ok (.getfield 22, 3) := by decide +kernel
theorem d_Z_next_53 : decode b_Z_next 53 = .ok (.iload_n 2, 1) := by decide +kernel
theorem d_Z_next_54 : decode b_Z_next 54 = .ok (.iconst 0, 1) := by decide +kernel
theorem d_Z_next_55 : decode b_Z_next 55 = .ok (.iastore, 1) := by decide +kernel
theorem d_Z_next_56 : decode b_Z_next 56 = .ok (.iinc 1 1, 3) := by decide +kernel
theorem d_Z_next_59 : decode b_Z_next 59 = .ok (.iinc 2 1, 3) := by decide +kernel
theorem d_Z_next_62 : decode b_Z_next 62 = .ok (.goto (-43), 3) := by decide +kernel
theorem d_Z_next_65 : decode b_Z_next 65 = .ok (.iload_n 1, 1) := by decide +kernel
theorem d_Z_next_66 : decode b_Z_next 66 = .ok (.ireturn, 1) := by decide +kernel
theorem d_Z_oldest_0 : decode b_Z_oldest 0 = .ok (.aload_n 0, 1) := by decide +kernel
theorem d_Z_oldest_1 : decode b_Z_oldest 1 = .ok (.getfield 96, 3) := by decide +kernel
theorem d_Z_oldest_4 : decode b_Z_oldest 4 = .ok (.aload_n 0, 1) := by decide +kernel
theorem d_Z_oldest_5 : decode b_Z_oldest 5 = .ok (.getfield 53, 3) := by decide +kernel
theorem d_Z_oldest_8 : decode b_Z_oldest 8 = .ok (.isub, 1) := by decide +kernel
theorem d_Z_oldest_9 : decode b_Z_oldest 9 = .ok (.iconst 1, 1) := by decide +kernel
theorem d_Z_oldest_10 : decode b_Z_oldest 10 = .ok (.iadd, 1) := by decide +kernel
theorem d_Z_oldest_11 : decode b_Z_oldest 11 = .ok (.ifCond .le 17, 3) := by decide +kernel
theorem d_Z_oldest_14 : decode b_Z_oldest 14 = .ok (.aload_n 0, 1) := by decide +kernel
theorem d_Z_oldest_15 : decode b_Z_oldest 15 = .ok (.getfield 96, 3) := by decide +kernel
theorem d_Z_oldest_18 : decode b_Z_oldest 18 = .ok (.aload_n 0, 1) := by decide +kernel
theorem d_Z_oldest_19 : decode b_Z_oldest 19 = .ok (.getfield 53, 3) := by decide +kernel
theorem d_Z_oldest_22 : decode b_Z_oldest 22 = .ok (.isub, 1) := by decide +kernel
theorem d_Z_oldest_23 : decode b_Z_oldest 23 = .ok (.iconst 1, 1) := by decide +kernel
theorem d_Z_oldest_24 : decode b_Z_oldest 24 = .ok (.iadd, 1) := by decide +kernel
theorem d_Z_oldest_25 : decode b_Z_oldest 25 = .ok (.goto 4, 3) := by decide +kernel
theorem d_Z_oldest_28 : decode b_Z_oldest 28 = .ok (.iconst 0, 1) := by decide +kernel
theorem d_Z_oldest_29 : decode b_Z_oldest 29 = .ok (.ireturn, 1) := by decide +kernel
theorem d_Z_run_0 : decode b_Z_run 0 = .ok (.aload_n 0, 1) := by decide +kernel
theorem d_Z_run_1 : decode b_Z_run 1 = .ok (.iload_n 1, 1) := by decide +kernel
theorem d_Z_run_2 : decode b_Z_run 2 = .ok (.invokevirtual 71, 3) := by decide +kernel
theorem d_Z_run_5 : decode b_Z_run 5 = .ok (.ifCond .ne 5, 3) := by decide +kernel
theorem d_Z_run_8 : decode b_Z_run 8 = .ok (.iconst 0, 1) := by decide +kernel
theorem d_Z_run_9 : decode b_Z_run 9 = .ok (.ireturn, 1) := by decide +kernel
theorem d_Z_run_10 : decode b_Z_run 10 = .ok (.aload_n 0, 1) := by decide +kernel
theorem d_Z_run_11 : decode b_Z_run 11 = .ok (.lload_n 2, 1) := by decide +kernel
theorem d_Z_run_12 : decode b_Z_run 12 = .ok (.lload 4, 2) := by decide +kernel
theorem d_Z_run_14 : decode b_Z_run 14 = .ok (.invokevirtual 137, 3) := by decide +kernel
theorem d_Z_run_17 : decode b_Z_run 17 = .ok (.aload_n 0, 1) := by decide +kernel
theorem d_Z_run_18 : decode b_Z_run 18 = .ok (.aload_n 0, 1) := by decide +kernel
theorem d_Z_run_19 : decode b_Z_run 19 = .ok (.getfield 22, 3) := by decide +kernel
theorem d_Z_run_22 : decode b_Z_run 22 = .ok (.iload_n 1, 1) := by decide +kernel
theorem d_Z_run_23 : decode b_Z_run 23 = .ok (.iaload, 1) := by decide +kernel
theorem d_Z_run_24 : decode b_Z_run 24 = .ok (.iconst 2, 1) := by decide +kernel
theorem d_Z_run_25 : decode b_Z_run 25 = .ok (.if_icmp .ne 7, 3) := by decide +kernel
theorem d_Z_run_28 : decode b_Z_run 28 = .ok (.iconst 1, 1) := by decide +kernel
theorem d_Z_run_29 : decode b_Z_run 29 = .ok (.goto 4, 3) := by decide +kernel
theorem d_Z_run_32 : decode b_Z_run 32 = .ok (.iconst 0, 1) := by decide +kernel
theorem d_Z_run_33 : decode b_Z_run 33 = .ok (.putfield 141, 3) := by decide +kernel
theorem d_Z_run_36 : decode b_Z_run 36 = .ok (.aload_n 0, 1) := by decide +kernel
theorem d_Z_run_37 : decode b_Z_run 37 = .ok (.getfield 141, 3) := by decide +kernel
theorem d_Z_run_40 : decode b_Z_run 40 = .ok (.ifCond .eq 11, 3) := by decide +kernel
theorem d_Z_run_43 : decode b_Z_run 43 = .ok (.aload_n 0, 1) := by decide +kernel
theorem d_Z_run_44 : decode b_Z_run 44 = .ok (.iload_n 1, 1) := by decide +kernel
theorem d_Z_run_45 : decode b_Z_run 45 = .ok (.invokevirtual 145, 3) := by decide +kernel
theorem d_Z_run_48 : decode b_Z_run 48 = .ok (.goto 8, 3) := by decide +kernel
theorem d_Z_run_51 : decode b_Z_run 51 = .ok (.aload_n 0, 1) := by decide +kernel
theorem d_Z_run_52 : decode b_Z_run 52 = .ok (.iload_n 1, 1) := by decide +kernel
theorem d_Z_run_53 : decode b_Z_run 53 = .ok (.invokevirtual 149, 3) := by decide +kernel
theorem d_Z_run_56 : decode b_Z_run 56 = .ok (.iconst 0, 1) := by decide +kernel
theorem d_Z_run_57 : decode b_Z_run 57 = .ok (.istore 6, 2) := by decide +kernel
theorem d_Z_run_59 : decode b_Z_run 59 = .ok (.iload 6, 2) := by decide +kernel
theorem d_Z_run_61 : decode b_Z_run 61 = .ok (.iconst 4, 1) := by decide +kernel
theorem d_Z_run_62 : decode b_Z_run 62 = .ok (.if_icmp .ge 23, 3) := by decide +kernel
theorem d_Z_run_65 : decode b_Z_run 65 = .ok (.aload_n 0, 1) := by decide +kernel
theorem d_Z_run_66 : decode b_Z_run 66 = .ok (.getfield 47, 3) := by decide +kernel
theorem d_Z_run_69 : decode b_Z_run 69 = .ok (.iload 6, 2) := by decide +kernel
theorem d_Z_run_71 : decode b_Z_run 71 = .ok (.aload_n 0, 1) := by decide +kernel
theorem d_Z_run_72 : decode b_Z_run 72 = .ok (.getfield 40, 3) := by decide +kernel
theorem d_Z_run_75 : decode b_Z_run 75 = .ok (.iload 6, 2) := by decide +kernel
theorem d_Z_run_77 : decode b_Z_run 77 = .ok (.laload, 1) := by decide +kernel
theorem d_Z_run_78 : decode b_Z_run 78 = .ok (.lastore, 1) := by decide +kernel
theorem d_Z_run_79 : decode b_Z_run 79 = .ok (.iinc 6 1, 3) := by decide +kernel
theorem d_Z_run_82 : decode b_Z_run 82 = .ok (.goto (-23), 3) := by decide +kernel
theorem d_Z_run_85 : decode b_Z_run 85 = .ok (.aload_n 0, 1) := by decide +kernel
theorem d_Z_run_86 : decode b_Z_run 86 = .ok (.aload_n 0, 1) := by decide +kernel
theorem d_Z_run_87 : decode b_Z_run 87 = .ok (.getfield 127, 3) := by decide +kernel
theorem d_Z_run_90 : decode b_Z_run 90 = .ok (.putfield 152, 3) := by decide +kernel
theorem d_Z_run_93 : decode b_Z_run 93 = .ok (.aload_n 0, 1) := by decide +kernel
theorem d_Z_run_94 : decode b_Z_run 94 = .ok (.dup, 1) := by decide +kernel
theorem d_Z_run_95 : decode b_Z_run 95 = .ok (.getfield 155, 3) := by decide +kernel
theorem d_Z_run_98 : decode b_Z_run 98 = .ok (.iconst 1, 1) := by decide +kernel
theorem d_Z_run_99 : decode b_Z_run 99 = .ok (.iadd, 1) := by decide +kernel
theorem d_Z_run_100 : decode b_Z_run 100 = .ok (.putfield 155, 3) := by decide +kernel
theorem d_Z_run_103 : decode b_Z_run 103 = .ok (.aload_n 0, 1) := by decide +kernel
theorem d_Z_run_104 : decode b_Z_run 104 = .ok (.dup, 1) := by decide +kernel
theorem d_Z_run_105 : decode b_Z_run 105 = .ok (.getfield 158, 3) := by decide +kernel
theorem d_Z_run_108 : decode b_Z_run 108 = .ok (.aload_n 0, 1) := by decide +kernel
theorem d_Z_run_109 : decode b_Z_run 109 = .ok (.getfield 124, 3) := by decide +kernel
theorem d_Z_run_112 : decode b_Z_run 112 = .ok (.iadd, 1) := by decide +kernel
theorem d_Z_run_113 : decode b_Z_run 113 = .ok (.putfield 158, 3) := by decide +kernel
theorem d_Z_run_116 : decode b_Z_run 116 = .ok (.aload_n 0, 1) := by decide +kernel
theorem d_Z_run_117 : decode b_Z_run 117 = .ok (.getfield 124, 3) := by decide +kernel
theorem d_Z_run_120 : decode b_Z_run 120 = .ok (.ireturn, 1) := by decide +kernel
theorem d_Z_begin_0 : decode b_Z_begin 0 = .ok (.aload_n 0, 1) := by decide +kernel
theorem d_Z_begin_1 : decode b_Z_begin 1 = .ok (.getfield 40, 3) := by decide +kernel
theorem d_Z_begin_4 : decode b_Z_begin 4 = .ok (.iconst 0, 1) := by decide +kernel
theorem d_Z_begin_5 : decode b_Z_begin 5 = .ok (.lload_n 1, 1) := by decide +kernel
theorem d_Z_begin_6 : decode b_Z_begin 6 = .ok (.lastore, 1) := by decide +kernel
theorem d_Z_begin_7 : decode b_Z_begin 7 = .ok (.aload_n 0, 1) := by decide +kernel
theorem d_Z_begin_8 : decode b_Z_begin 8 = .ok (.getfield 40, 3) := by decide +kernel
theorem d_Z_begin_11 : decode b_Z_begin 11 = .ok (.iconst 1, 1) := by decide +kernel
theorem d_Z_begin_12 : decode b_Z_begin 12 = .ok (.lload_n 3, 1) := by decide +kernel
theorem d_Z_begin_13 : decode b_Z_begin 13 = .ok (.lastore, 1) := by decide +kernel
theorem d_Z_begin_14 : decode b_Z_begin 14 = .ok (.aload_n 0, 1) := by decide +kernel
theorem d_Z_begin_15 : decode b_Z_begin 15 = .ok (.getfield 40, 3) := by decide +kernel
theorem d_Z_begin_18 : decode b_Z_begin 18 = .ok (.iconst 2, 1) := by decide +kernel
theorem d_Z_begin_19 : decode b_Z_begin 19 = .ok (.lconst 0, 1) := by decide +kernel
theorem d_Z_begin_20 : decode b_Z_begin 20 = .ok (.lastore, 1) := by decide +kernel
theorem d_Z_begin_21 : decode b_Z_begin 21 = .ok (.aload_n 0, 1) := by decide +kernel
theorem d_Z_begin_22 : decode b_Z_begin 22 = .ok (.getfield 40, 3) := by decide +kernel
theorem d_Z_begin_25 : decode b_Z_begin 25 = .ok (.iconst 3, 1) := by decide +kernel
theorem d_Z_begin_26 : decode b_Z_begin 26 = .ok (.lconst 0, 1) := by decide +kernel
theorem d_Z_begin_27 : decode b_Z_begin 27 = .ok (.lastore, 1) := by decide +kernel
theorem d_Z_begin_28 : decode b_Z_begin 28 = .ok (.aload_n 0, 1) := by decide +kernel
theorem d_Z_begin_29 : decode b_Z_begin 29 = .ok (.iconst 0, 1) := by decide +kernel
theorem d_Z_begin_30 : decode b_Z_begin 30 = .ok (.putfield 124, 3) := by decide +kernel
theorem d_Z_begin_33 : decode b_Z_begin 33 = .ok (.aload_n 0, 1) := by decide +kernel
theorem d_Z_begin_34 : decode b_Z_begin 34 = .ok (.iconst 0, 1) := by decide +kernel
theorem d_Z_begin_35 : decode b_Z_begin 35 = .ok (.putfield 127, 3) := by decide +kernel
theorem d_Z_begin_38 : decode b_Z_begin 38 = .ok (.return_, 1) := by decide +kernel
theorem d_Z_runBytes_0 : decode b_Z_runBytes 0 = .ok (.sipush 300, 3) := by decide +kernel
theorem d_Z_runBytes_3 : decode b_Z_runBytes 3 = .ok (.iload_n 1, 1) := by decide +kernel
theorem d_Z_runBytes_4 : decode b_Z_runBytes 4 = .ok (.imul, 1) := by decide +kernel
theorem d_Z_runBytes_5 : decode b_Z_runBytes 5 = .ok (.istore_n 2, 1) := by decide +kernel
theorem d_Z_runBytes_6 : decode b_Z_runBytes 6 = .ok (.iload_n 2, 1) := by decide +kernel
theorem d_Z_runBytes_7 : decode b_Z_runBytes 7 = .ok (.istore_n 3, 1) := by decide +kernel
theorem d_Z_runBytes_8 : decode b_Z_runBytes 8 = .ok (.iconst 0, 1) := by decide +kernel
theorem d_Z_runBytes_9 : decode b_Z_runBytes 9 = .ok (.istore 4, 2) := by decide +kernel
theorem d_Z_runBytes_11 : decode b_Z_runBytes 11 = .ok (.iconst 0, 1) := by decide +kernel
theorem d_Z_runBytes_12 : decode b_Z_runBytes 12 = .ok (.istore 5, 2) := by decide +kernel
theorem d_Z_runBytes_14 : decode b_Z_runBytes 14 = .ok (.aload_n 0, 1) := by decide +kernel
theorem d_Z_runBytes_15 : decode b_Z_runBytes 15 = .ok (.getfield 127, 3) := by decide +kernel
theorem d_Z_runBytes_18 : decode b_Z_runBytes 18 = .ok (.ifCond .ne 294, 3) := by decide +kernel
theorem d_Z_runBytes_21 : decode b_Z_runBytes 21 = .ok (.aload_n 0, 1) := by decide +kernel
theorem d_Z_runBytes_22 : decode b_Z_runBytes 22 = .ok (.getfield 31, 3) := by decide +kernel
theorem d_Z_runBytes_25 : decode b_Z_runBytes 25 = .ok (.iload_n 3, 1) := by decide +kernel
theorem d_Z_runBytes_26 : decode b_Z_runBytes 26 = .ok (.iaload, 1) := by decide +kernel
theorem d_Z_runBytes_27 : decode b_Z_runBytes 27 = .ok (.bipush 10, 2) := by decide +kernel
theorem d_Z_runBytes_29 : decode b_Z_runBytes 29 = .ok (.if_icmp .eq 283, 3) := by decide +kernel
theorem d_Z_runBytes_32 : decode b_Z_runBytes 32 = .ok (.aload_n 0, 1) := by decide +kernel
theorem d_Z_runBytes_33 : decode b_Z_runBytes 33 = .ok (.getfield 31, 3) := by decide +kernel
theorem d_Z_runBytes_36 : decode b_Z_runBytes 36 = .ok (.iload_n 3, 1) := by decide +kernel
theorem d_Z_runBytes_37 : decode b_Z_runBytes 37 = .ok (.iaload, 1) := by decide +kernel
theorem d_Z_runBytes_38 : decode b_Z_runBytes 38 = .ok (.istore 6, 2) := by decide +kernel
theorem d_Z_runBytes_40 : decode b_Z_runBytes 40 = .ok (.iload 5, 2) := by decide +kernel
theorem d_Z_runBytes_42 : decode b_Z_runBytes 42 = .ok (.ifCond .eq 19, 3) := by decide +kernel
theorem d_Z_runBytes_45 : decode b_Z_runBytes 45 = .ok (.aload_n 0, 1) := by decide +kernel
theorem d_Z_runBytes_46 : decode b_Z_runBytes 46 = .ok (.getfield 124, 3) := by decide +kernel
theorem d_Z_runBytes_49 : decode b_Z_runBytes 49 = .ok (.sipush 2000, 3) := by decide +kernel
theorem d_Z_runBytes_52 : decode b_Z_runBytes 52 = .ok (.if_icmp .ne 9, 3) := by decide +kernel
theorem d_Z_runBytes_55 : decode b_Z_runBytes 55 = .ok (.aload_n 0, 1) := by decide +kernel
theorem d_Z_runBytes_56 : decode b_Z_runBytes 56 = .ok (.iconst 2, 1) := by decide +kernel
theorem d_Z_runBytes_57 : decode b_Z_runBytes 57 = .ok (.putfield 127, 3) := by decide +kernel
theorem d_Z_runBytes_60 : decode b_Z_runBytes 60 = .ok (.return_, 1) := by decide +kernel
theorem d_Z_runBytes_61 : decode b_Z_runBytes 61 = .ok (.iload 6, 2) := by decide +kernel
theorem d_Z_runBytes_63 : decode b_Z_runBytes 63 = .ok (.iconst 2, 1) := by decide +kernel
theorem d_Z_runBytes_64 : decode b_Z_runBytes 64 = .ok (.if_icmp .eq 10, 3) := by decide +kernel
theorem d_Z_runBytes_67 : decode b_Z_runBytes 67 = .ok (.iload 6, 2) := by decide +kernel
theorem d_Z_runBytes_69 : decode b_Z_runBytes 69 = .ok (.bipush 9, 2) := by decide +kernel
theorem d_Z_runBytes_71 : decode b_Z_runBytes 71 = .ok (.if_icmp .ne 7, 3) := by decide +kernel
theorem d_Z_runBytes_74 : decode b_Z_runBytes 74 = .ok (.iconst 1, 1) := by decide +kernel
theorem d_Z_runBytes_75 : decode b_Z_runBytes 75 = .ok (.goto 4, 3) := by decide +kernel
theorem d_Z_runBytes_78 : decode b_Z_runBytes 78 = .ok (.iconst 0, 1) := by decide +kernel
theorem d_Z_runBytes_79 : decode b_Z_runBytes 79 = .ok (.istore 5, 2) := by decide +kernel
theorem d_Z_runBytes_81 : decode b_Z_runBytes 81 = .ok (.iload_n 3, 1) := by decide +kernel
theorem d_Z_runBytes_82 : decode b_Z_runBytes 82 = .ok (.iload 6, 2) := by decide +kernel
theorem d_Z_runBytes_84 : decode b_Z_runBytes 84 = .ok (.invokestatic 102, 3) := by decide +kernel
theorem d_Z_runBytes_87 : decode b_Z_runBytes 87 = .ok (.iadd, 1) := by decide +kernel
theorem d_Z_runBytes_88 : decode b_Z_runBytes 88 = .ok (.istore 7, 2) := by decide +kernel
theorem d_Z_runBytes_90 : decode b_Z_runBytes 90 = .ok (.iload 6, 2) := by decide +kernel
theorem d_Z_runBytes_92 : decode b_Z_runBytes 92 = .ok (.iconst 1, 1) := by decide +kernel
theorem d_Z_runBytes_93 : decode b_Z_runBytes 93 = .ok (.if_icmp .eq 16, 3) := by decide +kernel
theorem d_Z_runBytes_96 : decode b_Z_runBytes 96 = .ok (.iload 6, 2) := by decide +kernel
theorem d_Z_runBytes_98 : decode b_Z_runBytes 98 = .ok (.iconst 3, 1) := by decide +kernel
theorem d_Z_runBytes_99 : decode b_Z_runBytes 99 = .ok (.if_icmp .eq 10, 3) := by decide +kernel
theorem d_Z_runBytes_102 : decode b_Z_runBytes 102 = .ok (.iload 6, 2) := by decide +kernel
theorem d_Z_runBytes_104 : decode b_Z_runBytes 104 = .ok (.bipush 16, 2) := by decide +kernel
theorem d_Z_runBytes_106 : decode b_Z_runBytes 106 = .ok (.if_icmp .ne 44, 3) := by decide +kernel
theorem d_Z_runBytes_109 : decode b_Z_runBytes 109 = .ok (.aload_n 0, 1) := by decide +kernel
theorem d_Z_runBytes_110 : decode b_Z_runBytes 110 = .ok (.getfield 44, 3) := by decide +kernel
theorem d_Z_runBytes_113 : decode b_Z_runBytes 113 = .ok (.iload 4, 2) := by decide +kernel
theorem d_Z_runBytes_115 : decode b_Z_runBytes 115 = .ok (.iload 6, 2) := by decide +kernel
theorem d_Z_runBytes_117 : decode b_Z_runBytes 117 = .ok (.iconst 1, 1) := by decide +kernel
theorem d_Z_runBytes_118 : decode b_Z_runBytes 118 = .ok (.if_icmp .ne 19, 3) := by decide +kernel
theorem d_Z_runBytes_121 : decode b_Z_runBytes 121 = .ok (.aload_n 0, 1) := by decide +kernel
theorem d_Z_runBytes_122 : decode b_Z_runBytes 122 = .ok (.getfield 40, 3) := by decide +kernel
theorem d_Z_runBytes_125 : decode b_Z_runBytes 125 = .ok (.aload_n 0, 1) := by decide +kernel
theorem d_Z_runBytes_126 : decode b_Z_runBytes 126 = .ok (.getfield 31, 3) := by decide +kernel
theorem d_Z_runBytes_129 : decode b_Z_runBytes 129 = .ok (.iload_n 3, 1) := by decide +kernel
theorem d_Z_runBytes_130 : decode b_Z_runBytes 130 = .ok (.iconst 1, 1) := by decide +kernel
theorem d_Z_runBytes_131 : decode b_Z_runBytes 131 = .ok (.iadd, 1) := by decide +kernel
theorem d_Z_runBytes_132 : decode b_Z_runBytes 132 = .ok (.iaload, 1) := by decide +kernel
theorem d_Z_runBytes_133 : decode b_Z_runBytes 133 = .ok (.laload, 1) := by decide +kernel
theorem d_Z_runBytes_134 : decode b_Z_runBytes 134 = .ok (.goto 9, 3) := by decide +kernel
theorem d_Z_runBytes_137 : decode b_Z_runBytes 137 = .ok (.aload_n 0, 1) := by decide +kernel
theorem d_Z_runBytes_138 : decode b_Z_runBytes 138 = .ok (.iload_n 3, 1) := by decide +kernel
theorem d_Z_runBytes_139 : decode b_Z_runBytes 139 = .ok (.invokevirtual 134, 3) := by decide +kernel
theorem d_Z_runBytes_142 : decode b_Z_runBytes 142 = .ok (.i2l, 1) := by decide +kernel
theorem d_Z_runBytes_143 : decode b_Z_runBytes 143 = .ok (.lastore, 1) := by decide +kernel
theorem d_Z_runBytes_144 : decode b_Z_runBytes 144 = .ok (.iinc 4 1, 3) := by decide +kernel
theorem d_Z_runBytes_147 : decode b_Z_runBytes 147 = .ok (.goto 159, 3) := by decide +kernel
theorem d_Z_runBytes_150 : decode b_Z_runBytes 150 = .ok (.iload 5, 2) := by decide +kernel
theorem d_Z_runBytes_152 : decode b_Z_runBytes 152 = .ok (.ifCond .eq 90, 3) := by decide +kernel
theorem d_Z_runBytes_155 : decode b_Z_runBytes 155 = .ok (.iinc 4 (-1), 3) := by decide +kernel
theorem d_Z_runBytes_158 : decode b_Z_runBytes 158 = .ok (.aload_n 0, 1) := by decide +kernel
theorem d_Z_runBytes_159 : decode b_Z_runBytes 159 = .ok (.dup, 1) := by decide +kernel
theorem d_Z_runBytes_160 : decode b_Z_runBytes 160 = .ok (.getfield 124, 3) := by decide +kernel
theorem d_Z_runBytes_163 : decode b_Z_runBytes 163 = .ok (.iconst 1, 1) := by decide +kernel
theorem d_Z_runBytes_164 : decode b_Z_runBytes 164 = .ok (.iadd, 1) := by decide +kernel
theorem d_Z_runBytes_165 : decode b_Z_runBytes 165 = .ok (.putfield 124, 3) := by decide +kernel
theorem d_Z_runBytes_168 : decode b_Z_runBytes 168 = .ok (.iload 6, 2) := by decide +kernel
theorem d_Z_runBytes_170 : decode b_Z_runBytes 170 = .ok (.iconst 2, 1) := by decide +kernel
theorem d_Z_runBytes_171 : decode b_Z_runBytes 171 = .ok (.if_icmp .ne 26, 3) := by decide +kernel
theorem d_Z_runBytes_174 : decode b_Z_runBytes 174 = .ok (.aload_n 0, 1) := by decide +kernel
theorem d_Z_runBytes_175 : decode b_Z_runBytes 175 = .ok (.getfield 40, 3) := by decide +kernel
theorem d_Z_runBytes_178 : decode b_Z_runBytes 178 = .ok (.aload_n 0, 1) := by decide +kernel
theorem d_Z_runBytes_179 : decode b_Z_runBytes 179 = .ok (.getfield 31, 3) := by decide +kernel
theorem d_Z_runBytes_182 : decode b_Z_runBytes 182 = .ok (.iload_n 3, 1) := by decide +kernel
theorem d_Z_runBytes_183 : decode b_Z_runBytes 183 = .ok (.iconst 1, 1) := by decide +kernel
theorem d_Z_runBytes_184 : decode b_Z_runBytes 184 = .ok (.iadd, 1) := by decide +kernel
theorem d_Z_runBytes_185 : decode b_Z_runBytes 185 = .ok (.iaload, 1) := by decide +kernel
theorem d_Z_runBytes_186 : decode b_Z_runBytes 186 = .ok (.aload_n 0, 1) := by decide +kernel
theorem d_Z_runBytes_187 : decode b_Z_runBytes 187 = .ok (.getfield 44, 3) := by decide +kernel
theorem d_Z_runBytes_190 : decode b_Z_runBytes 190 = .ok (.iload 4, 2) := by decide +kernel
theorem d_Z_runBytes_192 : decode b_Z_runBytes 192 = .ok (.laload, 1) := by decide +kernel
theorem d_Z_runBytes_193 : decode b_Z_runBytes 193 = .ok (.lastore, 1) := by decide +kernel
theorem d_Z_runBytes_194 : decode b_Z_runBytes 194 = .ok (.goto 112, 3) := by decide +kernel
theorem d_Z_runBytes_197 : decode b_Z_runBytes 197 = .ok (.aload_n 0, 1) := by decide +kernel
theorem d_Z_runBytes_198 : decode b_Z_runBytes 198 = .ok (.getfield 44, 3) := by decide +kernel
theorem d_Z_runBytes_201 : decode b_Z_runBytes 201 = .ok (.iload 4, 2) := by decide +kernel
theorem d_Z_runBytes_203 : decode b_Z_runBytes 203 = .ok (.laload, 1) := by decide +kernel
theorem d_Z_runBytes_204 : decode b_Z_runBytes 204 = .ok (.lconst 0, 1) := by decide +kernel
theorem d_Z_runBytes_205 : decode b_Z_runBytes 205 = .ok (.lcmp, 1) := by decide +kernel
theorem d_Z_runBytes_206 : decode b_Z_runBytes 206 = .ok (.ifCond .eq 29, 3) := by decide +kernel
theorem d_Z_runBytes_209 : decode b_Z_runBytes 209 = .ok (.iload_n 2, 1) := by decide +kernel
theorem d_Z_runBytes_210 : decode b_Z_runBytes 210 = .ok (.sipush 256, 3) := by decide +kernel
theorem d_Z_runBytes_213 : decode b_Z_runBytes 213 = .ok (.aload_n 0, 1) := by decide +kernel
theorem d_Z_runBytes_214 : decode b_Z_runBytes 214 = .ok (.getfield 31, 3) := by decide +kernel
theorem d_Z_runBytes_217 : decode b_Z_runBytes 217 = .ok (.iload_n 3, 1) := by decide +kernel
theorem d_Z_runBytes_218 : decode b_Z_runBytes 218 = .ok (.iconst 1, 1) := by decide +kernel
theorem d_Z_runBytes_219 : decode b_Z_runBytes 219 = .ok (.iadd, 1) := by decide +kernel
theorem d_Z_runBytes_220 : decode b_Z_runBytes 220 = .ok (.iaload, 1) := by decide +kernel
theorem d_Z_runBytes_221 : decode b_Z_runBytes 221 = .ok (.imul, 1) := by decide +kernel
theorem d_Z_runBytes_222 : decode b_Z_runBytes 222 = .ok (.iadd, 1) := by decide +kernel
theorem d_Z_runBytes_223 : decode b_Z_runBytes 223 = .ok (.aload_n 0, 1) := by decide +kernel
theorem d_Z_runBytes_224 : decode b_Z_runBytes 224 = .ok (.getfield 31, 3) := by decide +kernel
theorem d_Z_runBytes_227 : decode b_Z_runBytes 227 = .ok (.iload_n 3, 1) := by decide +kernel
theorem d_Z_runBytes_228 : decode b_Z_runBytes 228 = .ok (.iconst 2, 1) := by decide +kernel
theorem d_Z_runBytes_229 : decode b_Z_runBytes 229 = .ok (.iadd, 1) := by decide +kernel
theorem d_Z_runBytes_230 : decode b_Z_runBytes 230 = .ok (.iaload, 1) := by decide +kernel
theorem d_Z_runBytes_231 : decode b_Z_runBytes 231 = .ok (.iadd, 1) := by decide +kernel
theorem d_Z_runBytes_232 : decode b_Z_runBytes 232 = .ok (.goto 5, 3) := by decide +kernel
theorem d_Z_runBytes_235 : decode b_Z_runBytes 235 = .ok (.iload 7, 2) := by decide +kernel
theorem d_Z_runBytes_237 : decode b_Z_runBytes 237 = .ok (.istore 7, 2) := by decide +kernel
theorem d_Z_runBytes_239 : decode b_Z_runBytes 239 = .ok (.goto 67, 3) := by decide +kernel
theorem d_Z_runBytes_242 : decode b_Z_runBytes 242 = .ok (.iload 6, 2) := by decide +kernel
theorem d_Z_runBytes_244 : decode b_Z_runBytes 244 = .ok (.bipush 7, 2) := by decide +kernel
theorem d_Z_runBytes_246 : decode b_Z_runBytes 246 = .ok (.if_icmp .ne 25, 3) := by decide +kernel
theorem d_Z_runBytes_249 : decode b_Z_runBytes 249 = .ok (.aload_n 0, 1) := by decide +kernel
theorem d_Z_runBytes_250 : decode b_Z_runBytes 250 = .ok (.getfield 44, 3) := by decide +kernel
theorem d_Z_runBytes_253 : decode b_Z_runBytes 253 = .ok (.iload 4, 2) := by decide +kernel
theorem d_Z_runBytes_255 : decode b_Z_runBytes 255 = .ok (.iconst 1, 1) := by decide +kernel
theorem d_Z_runBytes_256 : decode b_Z_runBytes 256 = .ok (.isub, 1) := by decide +kernel
theorem d_Z_runBytes_257 : decode b_Z_runBytes 257 = .ok (.laload, 1) := by decide +kernel
theorem d_Z_runBytes_258 : decode b_Z_runBytes 258 = .ok (.lconst 0, 1) := by decide +kernel
theorem d_Z_runBytes_259 : decode b_Z_runBytes 259 = .ok (.lcmp, 1) := by decide +kernel
theorem d_Z_runBytes_260 : decode b_Z_runBytes 260 = .ok (.ifCond .ne 11, 3) := by decide +kernel
theorem d_Z_runBytes_263 : decode b_Z_runBytes 263 = .ok (.aload_n 0, 1) := by decide +kernel
theorem d_Z_runBytes_264 : decode b_Z_runBytes 264 = .ok (.iconst 1, 1) := by decide +kernel
theorem d_Z_runBytes_265 : decode b_Z_runBytes 265 = .ok (.putfield 127, 3) := by decide +kernel
theorem d_Z_runBytes_268 : decode b_Z_runBytes 268 = .ok (.goto 38, 3) := by decide +kernel
theorem d_Z_runBytes_271 : decode b_Z_runBytes 271 = .ok (.iinc 4 (-1), 3) := by decide +kernel
theorem d_Z_runBytes_274 : decode b_Z_runBytes 274 = .ok (.aload_n 0, 1) := by decide +kernel
theorem d_Z_runBytes_275 : decode b_Z_runBytes 275 = .ok (.getfield 44, 3) := by decide +kernel
theorem d_Z_runBytes_278 : decode b_Z_runBytes 278 = .ok (.iload 4, 2) := by decide +kernel
theorem d_Z_runBytes_280 : decode b_Z_runBytes 280 = .ok (.iconst 1, 1) := by decide +kernel
theorem d_Z_runBytes_281 : decode b_Z_runBytes 281 = .ok (.isub, 1) := by decide +kernel
theorem d_Z_runBytes_282 : decode b_Z_runBytes 282 = .ok (.iload 6, 2) := by decide +kernel
theorem d_Z_runBytes_284 : decode b_Z_runBytes 284 = .ok (.iconst 3, 1) := by decide +kernel
theorem d_Z_runBytes_285 : decode b_Z_runBytes 285 = .ok (.isub, 1) := by decide +kernel
theorem d_Z_runBytes_286 : decode b_Z_runBytes 286 = .ok (.aload_n 0, 1) := by decide +kernel
theorem d_Z_runBytes_287 : decode b_Z_runBytes 287 = .ok (.getfield 44, 3) := by decide +kernel
theorem d_Z_runBytes_290 : decode b_Z_runBytes 290 = .ok (.iload 4, 2) := by decide +kernel
theorem d_Z_runBytes_292 : decode b_Z_runBytes 292 = .ok (.iconst 1, 1) := by decide +kernel
theorem d_Z_runBytes_293 : decode b_Z_runBytes 293 = .ok (.isub, 1) := by decide +kernel
theorem d_Z_runBytes_294 : decode b_Z_runBytes 294 = .ok (.laload, 1) := by decide +kernel
theorem d_Z_runBytes_295 : decode b_Z_runBytes 295 = .ok (.aload_n 0, 1) := by decide +kernel
theorem d_Z_runBytes_296 : decode b_Z_runBytes 296 = .ok (.getfield 44, 3) := by decide +kernel
theorem d_Z_runBytes_299 : decode b_Z_runBytes 299 = .ok (.iload 4, 2) := by decide +kernel
theorem d_Z_runBytes_301 : decode b_Z_runBytes 301 = .ok (.laload, 1) := by decide +kernel
theorem d_Z_runBytes_302 : decode b_Z_runBytes 302 = .ok (.invokestatic 130, 3) := by decide +kernel
theorem d_Z_runBytes_305 : decode b_Z_runBytes 305 = .ok (.lastore, 1) := by decide +kernel
theorem d_Z_runBytes_306 : decode b_Z_runBytes 306 = .ok (.iload 7, 2) := by decide +kernel
theorem d_Z_runBytes_308 : decode b_Z_runBytes 308 = .ok (.istore_n 3, 1) := by decide +kernel
theorem d_Z_runBytes_309 : decode b_Z_runBytes 309 = .ok (.goto (-295), 3) := by decide +kernel
theorem d_Z_runBytes_312 : decode b_Z_runBytes 312 = .ok (.return_, 1) := by decide +kernel
theorem d_Z_pushed_0 : decode b_Z_pushed 0 = .ok (.aload_n 0, 1) := by decide +kernel
theorem d_Z_pushed_1 : decode b_Z_pushed 1 = .ok (.getfield 31, 3) := by decide +kernel
theorem d_Z_pushed_4 : decode b_Z_pushed 4 = .ok (.iload_n 1, 1) := by decide +kernel
theorem d_Z_pushed_5 : decode b_Z_pushed 5 = .ok (.iaload, 1) := by decide +kernel
theorem d_Z_pushed_6 : decode b_Z_pushed 6 = .ok (.bipush 16, 2) := by decide +kernel
theorem d_Z_pushed_8 : decode b_Z_pushed 8 = .ok (.if_icmp .ne 22, 3) := by decide +kernel
theorem d_Z_pushed_11 : decode b_Z_pushed 11 = .ok (.aload_n 0, 1) := by decide +kernel
theorem d_Z_pushed_12 : decode b_Z_pushed 12 = .ok (.getfield 31, 3) := by decide +kernel
theorem d_Z_pushed_15 : decode b_Z_pushed 15 = .ok (.iload_n 1, 1) := by decide +kernel
theorem d_Z_pushed_16 : decode b_Z_pushed 16 = .ok (.iconst 1, 1) := by decide +kernel
theorem d_Z_pushed_17 : decode b_Z_pushed 17 = .ok (.iadd, 1) := by decide +kernel
theorem d_Z_pushed_18 : decode b_Z_pushed 18 = .ok (.iaload, 1) := by decide +kernel
theorem d_Z_pushed_19 : decode b_Z_pushed 19 = .ok (.sipush 128, 3) := by decide +kernel
theorem d_Z_pushed_22 : decode b_Z_pushed 22 = .ok (.ixor, 1) := by decide +kernel
theorem d_Z_pushed_23 : decode b_Z_pushed 23 = .ok (.sipush 128, 3) := by decide +kernel
theorem d_Z_pushed_26 : decode b_Z_pushed 26 = .ok (.isub, 1) := by decide +kernel
theorem d_Z_pushed_27 : decode b_Z_pushed 27 = .ok (.goto 47, 3) := by decide +kernel
theorem d_Z_pushed_30 : decode b_Z_pushed 30 = .ok (.aload_n 0, 1) := by decide +kernel
theorem d_Z_pushed_31 : decode b_Z_pushed 31 = .ok (.getfield 31, 3) := by decide +kernel
theorem d_Z_pushed_34 : decode b_Z_pushed 34 = .ok (.iload_n 1, 1) := by decide +kernel
theorem d_Z_pushed_35 : decode b_Z_pushed 35 = .ok (.iconst 1, 1) := by decide +kernel
theorem d_Z_pushed_36 : decode b_Z_pushed 36 = .ok (.iadd, 1) := by decide +kernel
theorem d_Z_pushed_37 : decode b_Z_pushed 37 = .ok (.iaload, 1) := by decide +kernel
theorem d_Z_pushed_38 : decode b_Z_pushed 38 = .ok (.bipush 24, 2) := by decide +kernel
theorem d_Z_pushed_40 : decode b_Z_pushed 40 = .ok (.ishl, 1) := by decide +kernel
theorem d_Z_pushed_41 : decode b_Z_pushed 41 = .ok (.aload_n 0, 1) := by decide +kernel
theorem d_Z_pushed_42 : decode b_Z_pushed 42 = .ok (.getfield 31, 3) := by decide +kernel
theorem d_Z_pushed_45 : decode b_Z_pushed 45 = .ok (.iload_n 1, 1) := by decide +kernel
theorem d_Z_pushed_46 : decode b_Z_pushed 46 = .ok (.iconst 2, 1) := by decide +kernel
theorem d_Z_pushed_47 : decode b_Z_pushed 47 = .ok (.iadd, 1) := by decide +kernel
theorem d_Z_pushed_48 : decode b_Z_pushed 48 = .ok (.iaload, 1) := by decide +kernel
theorem d_Z_pushed_49 : decode b_Z_pushed 49 = .ok (.bipush 16, 2) := by decide +kernel
theorem d_Z_pushed_51 : decode b_Z_pushed 51 = .ok (.ishl, 1) := by decide +kernel
theorem d_Z_pushed_52 : decode b_Z_pushed 52 = .ok (.ior, 1) := by decide +kernel
theorem d_Z_pushed_53 : decode b_Z_pushed 53 = .ok (.aload_n 0, 1) := by decide +kernel
theorem d_Z_pushed_54 : decode b_Z_pushed 54 = .ok (.getfield 31, 3) := by decide +kernel
theorem d_Z_pushed_57 : decode b_Z_pushed 57 = .ok (.iload_n 1, 1) := by decide +kernel
theorem d_Z_pushed_58 : decode b_Z_pushed 58 = .ok (.iconst 3, 1) := by decide +kernel
theorem d_Z_pushed_59 : decode b_Z_pushed 59 = .ok (.iadd, 1) := by decide +kernel
theorem d_Z_pushed_60 : decode b_Z_pushed 60 = .ok (.iaload, 1) := by decide +kernel
theorem d_Z_pushed_61 : decode b_Z_pushed 61 = .ok (.bipush 8, 2) := by decide +kernel
theorem d_Z_pushed_63 : decode b_Z_pushed 63 = .ok (.ishl, 1) := by decide +kernel
theorem d_Z_pushed_64 : decode b_Z_pushed 64 = .ok (.ior, 1) := by decide +kernel
theorem d_Z_pushed_65 : decode b_Z_pushed 65 = .ok (.aload_n 0, 1) := by decide +kernel
theorem d_Z_pushed_66 : decode b_Z_pushed 66 = .ok (.getfield 31, 3) := by decide +kernel
theorem d_Z_pushed_69 : decode b_Z_pushed 69 = .ok (.iload_n 1, 1) := by decide +kernel
theorem d_Z_pushed_70 : decode b_Z_pushed 70 = .ok (.iconst 4, 1) := by decide +kernel
theorem d_Z_pushed_71 : decode b_Z_pushed 71 = .ok (.iadd, 1) := by decide +kernel
theorem d_Z_pushed_72 : decode b_Z_pushed 72 = .ok (.iaload, 1) := by decide +kernel
theorem d_Z_pushed_73 : decode b_Z_pushed 73 = .ok (.ior, 1) := by decide +kernel
theorem d_Z_pushed_74 : decode b_Z_pushed 74 = .ok (.ireturn, 1) := by decide +kernel
theorem d_Z_result_0 : decode b_Z_result 0 = .ok (.iload_n 0, 1) := by decide +kernel
theorem d_Z_result_1 : decode b_Z_result 1 = .ok (.tableswitch 47 1 4 #[31, 35, 39, 43], 31) := by decide +kernel
theorem d_Z_result_32 : decode b_Z_result 32 = .ok (.lload_n 1, 1) := by decide +kernel
theorem d_Z_result_33 : decode b_Z_result 33 = .ok (.lload_n 3, 1) := by decide +kernel
theorem d_Z_result_34 : decode b_Z_result 34 = .ok (.ladd, 1) := by decide +kernel
theorem d_Z_result_35 : decode b_Z_result 35 = .ok (.lreturn, 1) := by decide +kernel
theorem d_Z_result_36 : decode b_Z_result 36 = .ok (.lload_n 1, 1) := by decide +kernel
theorem d_Z_result_37 : decode b_Z_result 37 = .ok (.lload_n 3, 1) := by decide +kernel
theorem d_Z_result_38 : decode b_Z_result 38 = .ok (.lsub, 1) := by decide +kernel
theorem d_Z_result_39 : decode b_Z_result 39 = .ok (.lreturn, 1) := by decide +kernel
theorem d_Z_result_40 : decode b_Z_result 40 = .ok (.lload_n 1, 1) := by decide +kernel
theorem d_Z_result_41 : decode b_Z_result 41 = .ok (.lload_n 3, 1) := by decide +kernel
theorem d_Z_result_42 : decode b_Z_result 42 = .ok (.lmul, 1) := by decide +kernel
theorem d_Z_result_43 : decode b_Z_result 43 = .ok (.lreturn, 1) := by decide +kernel
theorem d_Z_result_44 : decode b_Z_result 44 = .ok (.lload_n 1, 1) := by decide +kernel
theorem d_Z_result_45 : decode b_Z_result 45 = .ok (.lload_n 3, 1) := by decide +kernel
theorem d_Z_result_46 : decode b_Z_result 46 = .ok (.ldiv, 1) := by decide +kernel
theorem d_Z_result_47 : decode b_Z_result 47 = .ok (.lreturn, 1) := by decide +kernel
theorem d_Z_result_48 : decode b_Z_result 48 = .ok (.lload_n 1, 1) := by decide +kernel
theorem d_Z_result_49 : decode b_Z_result 49 = .ok (.lload_n 3, 1) := by decide +kernel
theorem d_Z_result_50 : decode b_Z_result 50 = .ok (.lcmp, 1) := by decide +kernel
theorem d_Z_result_51 : decode b_Z_result 51 = .ok (.ifCond .ge 7, 3) := by decide +kernel
theorem d_Z_result_54 : decode b_Z_result 54 = .ok (.lconst 1, 1) := by decide +kernel
theorem d_Z_result_55 : decode b_Z_result 55 = .ok (.goto 4, 3) := by decide +kernel
theorem d_Z_result_58 : decode b_Z_result 58 = .ok (.lconst 0, 1) := by decide +kernel
theorem d_Z_result_59 : decode b_Z_result 59 = .ok (.lreturn, 1) := by decide +kernel
theorem d_Z_runRows_0 : decode b_Z_runRows 0 = .ok (.iconst 0, 1) := by decide +kernel
theorem d_Z_runRows_1 : decode b_Z_runRows 1 = .ok (.istore_n 2, 1) := by decide +kernel
theorem d_Z_runRows_2 : decode b_Z_runRows 2 = .ok (.iload_n 2, 1) := by decide +kernel
theorem d_Z_runRows_3 : decode b_Z_runRows 3 = .ok (.aload_n 0, 1) := by decide +kernel
theorem d_Z_runRows_4 : decode b_Z_runRows 4 = .ok (.getfield 7, 3) := by decide +kernel
theorem d_Z_runRows_7 : decode b_Z_runRows 7 = .ok (.iload_n 1, 1) := by decide +kernel
theorem d_Z_runRows_8 : decode b_Z_runRows 8 = .ok (.iaload, 1) := by decide +kernel
theorem d_Z_runRows_9 : decode b_Z_runRows 9 = .ok (.if_icmp .ge 211, 3) := by decide +kernel
theorem d_Z_runRows_12 : decode b_Z_runRows 12 = .ok (.aload_n 0, 1) := by decide +kernel
theorem d_Z_runRows_13 : decode b_Z_runRows 13 = .ok (.getfield 127, 3) := by decide +kernel
theorem d_Z_runRows_16 : decode b_Z_runRows 16 = .ok (.ifCond .ne 204, 3) := by decide +kernel
theorem d_Z_runRows_19 : decode b_Z_runRows 19 = .ok (.bipush 60, 2) := by decide +kernel
theorem d_Z_runRows_21 : decode b_Z_runRows 21 = .ok (.iload_n 1, 1) := by decide +kernel
theorem d_Z_runRows_22 : decode b_Z_runRows 22 = .ok (.imul, 1) := by decide +kernel
theorem d_Z_runRows_23 : decode b_Z_runRows 23 = .ok (.iload_n 2, 1) := by decide +kernel
theorem d_Z_runRows_24 : decode b_Z_runRows 24 = .ok (.iadd, 1) := by decide +kernel
theorem d_Z_runRows_25 : decode b_Z_runRows 25 = .ok (.istore_n 3, 1) := by decide +kernel
theorem d_Z_runRows_26 : decode b_Z_runRows 26 = .ok (.aload_n 0, 1) := by decide +kernel
theorem d_Z_runRows_27 : decode b_Z_runRows 27 = .ok (.getfield 13, 3) := by decide +kernel
theorem d_Z_runRows_30 : decode b_Z_runRows 30 = .ok (.iload_n 3, 1) := by decide +kernel
theorem d_Z_runRows_31 : decode b_Z_runRows 31 = .ok (.iaload, 1) := by decide +kernel
theorem d_Z_runRows_32 : decode b_Z_runRows 32 = .ok (.istore 4, 2) := by decide +kernel
theorem d_Z_runRows_34 : decode b_Z_runRows 34 = .ok (.aload_n 0, 1) := by decide +kernel
theorem d_Z_runRows_35 : decode b_Z_runRows 35 = .ok (.getfield 124, 3) := by decide +kernel
theorem d_Z_runRows_38 : decode b_Z_runRows 38 = .ok (.sipush 2000, 3) := by decide +kernel
theorem d_Z_runRows_41 : decode b_Z_runRows 41 = .ok (.if_icmp .ne 11, 3) := by decide +kernel
theorem d_Z_runRows_44 : decode b_Z_runRows 44 = .ok (.aload_n 0, 1) := by decide +kernel
theorem d_Z_runRows_45 : decode b_Z_runRows 45 = .ok (.iconst 2, 1) := by decide +kernel
theorem d_Z_runRows_46 : decode b_Z_runRows 46 = .ok (.putfield 127, 3) := by decide +kernel
theorem d_Z_runRows_49 : decode b_Z_runRows 49 = .ok (.goto 168, 3) := by decide +kernel
theorem d_Z_runRows_52 : decode b_Z_runRows 52 = .ok (.iload 4, 2) := by decide +kernel
theorem d_Z_runRows_54 : decode b_Z_runRows 54 = .ok (.iconst 4, 1) := by decide +kernel
theorem d_Z_runRows_55 : decode b_Z_runRows 55 = .ok (.if_icmp .ne 27, 3) := by decide +kernel
theorem d_Z_runRows_58 : decode b_Z_runRows 58 = .ok (.aload_n 0, 1) := by decide +kernel
theorem d_Z_runRows_59 : decode b_Z_runRows 59 = .ok (.getfield 40, 3) := by decide +kernel
theorem d_Z_runRows_62 : decode b_Z_runRows 62 = .ok (.aload_n 0, 1) := by decide +kernel
theorem d_Z_runRows_63 : decode b_Z_runRows 63 = .ok (.getfield 19, 3) := by decide +kernel
theorem d_Z_runRows_66 : decode b_Z_runRows 66 = .ok (.iload_n 3, 1) := by decide +kernel
theorem d_Z_runRows_67 : decode b_Z_runRows 67 = .ok (.iaload, 1) := by decide +kernel
theorem d_Z_runRows_68 : decode b_Z_runRows 68 = .ok (.laload, 1) := by decide +kernel
theorem d_Z_runRows_69 : decode b_Z_runRows 69 = .ok (.lconst 0, 1) := by decide +kernel
theorem d_Z_runRows_70 : decode b_Z_runRows 70 = .ok (.lcmp, 1) := by decide +kernel
theorem d_Z_runRows_71 : decode b_Z_runRows 71 = .ok (.ifCond .ne 11, 3) := by decide +kernel
theorem d_Z_runRows_74 : decode b_Z_runRows 74 = .ok (.aload_n 0, 1) := by decide +kernel
theorem d_Z_runRows_75 : decode b_Z_runRows 75 = .ok (.iconst 1, 1) := by decide +kernel
theorem d_Z_runRows_76 : decode b_Z_runRows 76 = .ok (.putfield 127, 3) := by decide +kernel
theorem d_Z_runRows_79 : decode b_Z_runRows 79 = .ok (.goto 138, 3) := by decide +kernel
theorem d_Z_runRows_82 : decode b_Z_runRows 82 = .ok (.aload_n 0, 1) := by decide +kernel
theorem d_Z_runRows_83 : decode b_Z_runRows 83 = .ok (.dup, 1) := by decide +kernel
theorem d_Z_runRows_84 : decode b_Z_runRows 84 = .ok (.getfield 124, 3) := by decide +kernel
theorem d_Z_runRows_87 : decode b_Z_runRows 87 = .ok (.iconst 1, 1) := by decide +kernel
theorem d_Z_runRows_88 : decode b_Z_runRows 88 = .ok (.iadd, 1) := by decide +kernel
theorem d_Z_runRows_89 : decode b_Z_runRows 89 = .ok (.putfield 124, 3) := by decide +kernel
theorem d_Z_runRows_92 : decode b_Z_runRows 92 = .ok (.iinc 2 1, 3) := by decide +kernel
theorem d_Z_runRows_95 : decode b_Z_runRows 95 = .ok (.iload 4, 2) := by decide +kernel
theorem d_Z_runRows_97 : decode b_Z_runRows 97 = .ok (.ifCond .ne 24, 3) := by decide +kernel
theorem d_Z_runRows_100 : decode b_Z_runRows 100 = .ok (.aload_n 0, 1) := by decide +kernel
theorem d_Z_runRows_101 : decode b_Z_runRows 101 = .ok (.getfield 40, 3) := by decide +kernel
theorem d_Z_runRows_104 : decode b_Z_runRows 104 = .ok (.aload_n 0, 1) := by decide +kernel
theorem d_Z_runRows_105 : decode b_Z_runRows 105 = .ok (.getfield 16, 3) := by decide +kernel
theorem d_Z_runRows_108 : decode b_Z_runRows 108 = .ok (.iload_n 3, 1) := by decide +kernel
theorem d_Z_runRows_109 : decode b_Z_runRows 109 = .ok (.iaload, 1) := by decide +kernel
theorem d_Z_runRows_110 : decode b_Z_runRows 110 = .ok (.aload_n 0, 1) := by decide +kernel
theorem d_Z_runRows_111 : decode b_Z_runRows 111 = .ok (.getfield 19, 3) := by decide +kernel
theorem d_Z_runRows_114 : decode b_Z_runRows 114 = .ok (.iload_n 3, 1) := by decide +kernel
theorem d_Z_runRows_115 : decode b_Z_runRows 115 = .ok (.iaload, 1) := by decide +kernel
theorem d_Z_runRows_116 : decode b_Z_runRows 116 = .ok (.i2l, 1) := by decide +kernel
theorem d_Z_runRows_117 : decode b_Z_runRows 117 = .ok (.lastore, 1) := by decide +kernel
theorem d_Z_runRows_118 : decode b_Z_runRows 118 = .ok (.goto 99, 3) := by decide +kernel
theorem d_Z_runRows_121 : decode b_Z_runRows 121 = .ok (.iload 4, 2) := by decide +kernel
theorem d_Z_runRows_123 : decode b_Z_runRows 123 = .ok (.bipush 6, 2) := by decide +kernel
theorem d_Z_runRows_125 : decode b_Z_runRows 125 = .ok (.if_icmp .ne 33, 3) := by decide +kernel
theorem d_Z_runRows_128 : decode b_Z_runRows 128 = .ok (.aload_n 0, 1) := by decide +kernel
theorem d_Z_runRows_129 : decode b_Z_runRows 129 = .ok (.getfield 40, 3) := by decide +kernel
theorem d_Z_runRows_132 : decode b_Z_runRows 132 = .ok (.aload_n 0, 1) := by decide +kernel
theorem d_Z_runRows_133 : decode b_Z_runRows 133 = .ok (.getfield 16, 3) := by decide +kernel
theorem d_Z_runRows_136 : decode b_Z_runRows 136 = .ok (.iload_n 3, 1) := by decide +kernel
theorem d_Z_runRows_137 : decode b_Z_runRows 137 = .ok (.iaload, 1) := by decide +kernel
theorem d_Z_runRows_138 : decode b_Z_runRows 138 = .ok (.laload, 1) := by decide +kernel
theorem d_Z_runRows_139 : decode b_Z_runRows 139 = .ok (.lconst 0, 1) := by decide +kernel
theorem d_Z_runRows_140 : decode b_Z_runRows 140 = .ok (.lcmp, 1) := by decide +kernel
theorem d_Z_runRows_141 : decode b_Z_runRows 141 = .ok (.ifCond .eq 12, 3) := by decide +kernel
theorem d_Z_runRows_144 : decode b_Z_runRows 144 = .ok (.aload_n 0, 1) := by decide +kernel
theorem d_Z_runRows_145 : decode b_Z_runRows 145 = .ok (.getfield 19, 3) := by decide +kernel
theorem d_Z_runRows_148 : decode b_Z_runRows 148 = .ok (.iload_n 3, 1) := by decide +kernel
theorem d_Z_runRows_149 : decode b_Z_runRows 149 = .ok (.iaload, 1) := by decide +kernel
theorem d_Z_runRows_150 : decode b_Z_runRows 150 = .ok (.goto 4, 3) := by decide +kernel
theorem d_Z_runRows_153 : decode b_Z_runRows 153 = .ok (.iload_n 2, 1) := by decide +kernel
theorem d_Z_runRows_154 : decode b_Z_runRows 154 = .ok (.istore_n 2, 1) := by decide +kernel
theorem d_Z_runRows_155 : decode b_Z_runRows 155 = .ok (.goto 62, 3) := by decide +kernel
theorem d_Z_runRows_158 : decode b_Z_runRows 158 = .ok (.aload_n 0, 1) := by decide +kernel
theorem d_Z_runRows_159 : decode b_Z_runRows 159 = .ok (.getfield 40, 3) := by decide +kernel
theorem d_Z_runRows_162 : decode b_Z_runRows 162 = .ok (.aload_n 0, 1) := by decide +kernel
theorem d_Z_runRows_163 : decode b_Z_runRows 163 = .ok (.getfield 16, 3) := by decide +kernel
theorem d_Z_runRows_166 : decode b_Z_runRows 166 = .ok (.iload_n 3, 1) := by decide +kernel
theorem d_Z_runRows_167 : decode b_Z_runRows 167 = .ok (.iaload, 1) := by decide +kernel
theorem d_Z_runRows_168 : decode b_Z_runRows 168 = .ok (.iload 4, 2) := by decide +kernel
theorem d_Z_runRows_170 : decode b_Z_runRows 170 = .ok (.bipush 6, 2) := by decide +kernel
theorem d_Z_runRows_172 : decode b_Z_runRows 172 = .ok (.if_icmp .le 17, 3) := by decide +kernel
theorem d_Z_runRows_175 : decode b_Z_runRows 175 = .ok (.aload_n 0, 1) := by decide +kernel
theorem d_Z_runRows_176 : decode b_Z_runRows 176 = .ok (.getfield 40, 3) := by decide +kernel
theorem d_Z_runRows_179 : decode b_Z_runRows 179 = .ok (.aload_n 0, 1) := by decide +kernel
theorem d_Z_runRows_180 : decode b_Z_runRows 180 = .ok (.getfield 19, 3) := by decide +kernel
theorem d_Z_runRows_183 : decode b_Z_runRows 183 = .ok (.iload_n 3, 1) := by decide +kernel
theorem d_Z_runRows_184 : decode b_Z_runRows 184 = .ok (.iaload, 1) := by decide +kernel
theorem d_Z_runRows_185 : decode b_Z_runRows 185 = .ok (.laload, 1) := by decide +kernel
theorem d_Z_runRows_186 : decode b_Z_runRows 186 = .ok (.goto 30, 3) := by decide +kernel
theorem d_Z_runRows_189 : decode b_Z_runRows 189 = .ok (.iload 4, 2) := by decide +kernel
theorem d_Z_runRows_191 : decode b_Z_runRows 191 = .ok (.aload_n 0, 1) := by decide +kernel
theorem d_Z_runRows_192 : decode b_Z_runRows 192 = .ok (.getfield 40, 3) := by decide +kernel
theorem d_Z_runRows_195 : decode b_Z_runRows 195 = .ok (.aload_n 0, 1) := by decide +kernel
theorem d_Z_runRows_196 : decode b_Z_runRows 196 = .ok (.getfield 16, 3) := by decide +kernel
theorem d_Z_runRows_199 : decode b_Z_runRows 199 = .ok (.iload_n 3, 1) := by decide +kernel
theorem d_Z_runRows_200 : decode b_Z_runRows 200 = .ok (.iaload, 1) := by decide +kernel
theorem d_Z_runRows_201 : decode b_Z_runRows 201 = .ok (.laload, 1) := by decide +kernel
theorem d_Z_runRows_202 : decode b_Z_runRows 202 = .ok (.aload_n 0, 1) := by decide +kernel
theorem d_Z_runRows_203 : decode b_Z_runRows 203 = .ok (.getfield 40, 3) := by decide +kernel
theorem d_Z_runRows_206 : decode b_Z_runRows 206 = .ok (.aload_n 0, 1) := by decide +kernel
theorem d_Z_runRows_207 : decode b_Z_runRows 207 = .ok (.getfield 19, 3) := by decide +kernel
theorem d_Z_runRows_210 : decode b_Z_runRows 210 = .ok (.iload_n 3, 1) := by decide +kernel
theorem d_Z_runRows_211 : decode b_Z_runRows 211 = .ok (.iaload, 1) := by decide +kernel
theorem d_Z_runRows_212 : decode b_Z_runRows 212 = .ok (.laload, 1) := by decide +kernel
theorem d_Z_runRows_213 : decode b_Z_runRows 213 = .ok (.invokestatic 130, 3) := by decide +kernel
theorem d_Z_runRows_216 : decode b_Z_runRows 216 = .ok (.lastore, 1) := by decide +kernel
theorem d_Z_runRows_217 : decode b_Z_runRows 217 = .ok (.goto (-215), 3) := by decide +kernel
theorem d_Z_runRows_220 : decode b_Z_runRows 220 = .ok (.return_, 1) := by decide +kernel
theorem d_Z_register_0 : decode b_Z_register 0 = .ok (.aload_n 0, 1) := by decide +kernel
theorem d_Z_register_1 : decode b_Z_register 1 = .ok (.iload_n 1, 1) := by decide +kernel
theorem d_Z_register_2 : decode b_Z_register 2 = .ok (.iconst 0, 1) := by decide +kernel
theorem d_Z_register_3 : decode b_Z_register 3 = .ok (.iconst 3, 1) := by decide +kernel
theorem d_Z_register_4 : decode b_Z_register 4 = .ok (.invokestatic 63, 3) := by decide +kernel
theorem d_Z_register_7 : decode b_Z_register 7 = .ok (.ifCond .eq 7, 3) := by decide +kernel
theorem d_Z_register_10 : decode b_Z_register 10 = .ok (.iconst 0, 1) := by decide +kernel
theorem d_Z_register_11 : decode b_Z_register 11 = .ok (.goto 4, 3) := by decide +kernel
theorem d_Z_register_14 : decode b_Z_register 14 = .ok (.iconst 1, 1) := by decide +kernel
theorem d_Z_register_15 : decode b_Z_register 15 = .ok (.putfield 57, 3) := by decide +kernel
theorem d_Z_register_18 : decode b_Z_register 18 = .ok (.aload_n 0, 1) := by decide +kernel
theorem d_Z_register_19 : decode b_Z_register 19 = .ok (.getfield 57, 3) := by decide +kernel
theorem d_Z_register_22 : decode b_Z_register 22 = .ok (.ifCond .ne 12, 3) := by decide +kernel
theorem d_Z_register_25 : decode b_Z_register 25 = .ok (.aload_n 0, 1) := by decide +kernel
theorem d_Z_register_26 : decode b_Z_register 26 = .ok (.getfield 47, 3) := by decide +kernel
theorem d_Z_register_29 : decode b_Z_register 29 = .ok (.iload_n 1, 1) := by decide +kernel
theorem d_Z_register_30 : decode b_Z_register 30 = .ok (.laload, 1) := by decide +kernel
theorem d_Z_register_31 : decode b_Z_register 31 = .ok (.goto 4, 3) := by decide +kernel
theorem d_Z_register_34 : decode b_Z_register 34 = .ok (.lconst 0, 1) := by decide +kernel
theorem d_Z_register_35 : decode b_Z_register 35 = .ok (.lreturn, 1) := by decide +kernel
theorem d_Z_ended_0 : decode b_Z_ended 0 = .ok (.aload_n 0, 1) := by decide +kernel
theorem d_Z_ended_1 : decode b_Z_ended 1 = .ok (.iconst 0, 1) := by decide +kernel
theorem d_Z_ended_2 : decode b_Z_ended 2 = .ok (.putfield 57, 3) := by decide +kernel
theorem d_Z_ended_5 : decode b_Z_ended 5 = .ok (.iload_n 1, 1) := by decide +kernel
theorem d_Z_ended_6 : decode b_Z_ended 6 = .ok (.ifCond .ne 10, 3) := by decide +kernel
theorem d_Z_ended_9 : decode b_Z_ended 9 = .ok (.aload_n 0, 1) := by decide +kernel
theorem d_Z_ended_10 : decode b_Z_ended 10 = .ok (.getfield 152, 3) := by decide +kernel
theorem d_Z_ended_13 : decode b_Z_ended 13 = .ok (.goto 28, 3) := by decide +kernel
theorem d_Z_ended_16 : decode b_Z_ended 16 = .ok (.iload_n 1, 1) := by decide +kernel
theorem d_Z_ended_17 : decode b_Z_ended 17 = .ok (.iconst 1, 1) := by decide +kernel
theorem d_Z_ended_18 : decode b_Z_ended 18 = .ok (.if_icmp .ne 18, 3) := by decide +kernel
theorem d_Z_ended_21 : decode b_Z_ended 21 = .ok (.aload_n 0, 1) := by decide +kernel
theorem d_Z_ended_22 : decode b_Z_ended 22 = .ok (.getfield 141, 3) := by decide +kernel
theorem d_Z_ended_25 : decode b_Z_ended 25 = .ok (.ifCond .eq 7, 3) := by decide +kernel
theorem d_Z_ended_28 : decode b_Z_ended 28 = .ok (.iconst 1, 1) := by decide +kernel
theorem d_Z_ended_29 : decode b_Z_ended 29 = .ok (.goto 12, 3) := by decide +kernel
theorem d_Z_ended_32 : decode b_Z_ended 32 = .ok (.iconst 0, 1) := by decide +kernel
theorem d_Z_ended_33 : decode b_Z_ended 33 = .ok (.goto 8, 3) := by decide +kernel
theorem d_Z_ended_36 : decode b_Z_ended 36 = .ok (.aload_n 0, 1) := by decide +kernel
theorem d_Z_ended_37 : decode b_Z_ended 37 = .ok (.iconst 1, 1) := by decide +kernel
theorem d_Z_ended_38 : decode b_Z_ended 38 = .ok (.invokevirtual 67, 3) := by decide +kernel
theorem d_Z_ended_41 : decode b_Z_ended 41 = .ok (.ireturn, 1) := by decide +kernel
theorem d_Z_same_0 : decode b_Z_same 0 = .ok (.aload_n 0, 1) := by decide +kernel
theorem d_Z_same_1 : decode b_Z_same 1 = .ok (.iload_n 1, 1) := by decide +kernel
theorem d_Z_same_2 : decode b_Z_same 2 = .ok (.invokevirtual 71, 3) := by decide +kernel
theorem d_Z_same_5 : decode b_Z_same 5 = .ok (.ifCond .ne 5, 3) := by decide +kernel
theorem d_Z_same_8 : decode b_Z_same 8 = .ok (.iconst 0, 1) := by decide +kernel
theorem d_Z_same_9 : decode b_Z_same 9 = .ok (.ireturn, 1) := by decide +kernel
theorem d_Z_same_10 : decode b_Z_same 10 = .ok (.aload_n 0, 1) := by decide +kernel
theorem d_Z_same_11 : decode b_Z_same 11 = .ok (.getfield 22, 3) := by decide +kernel
theorem d_Z_same_14 : decode b_Z_same 14 = .ok (.iload_n 1, 1) := by decide +kernel
theorem d_Z_same_15 : decode b_Z_same 15 = .ok (.iaload, 1) := by decide +kernel
theorem d_Z_same_16 : decode b_Z_same 16 = .ok (.ifCond .eq 11, 3) := by decide +kernel
theorem d_Z_same_19 : decode b_Z_same 19 = .ok (.aload_n 0, 1) := by decide +kernel
theorem d_Z_same_20 : decode b_Z_same 20 = .ok (.iload_n 1, 1) := by decide +kernel
theorem d_Z_same_21 : decode b_Z_same 21 = .ok (.invokevirtual 114, 3) := by decide +kernel
theorem d_Z_same_24 : decode b_Z_same 24 = .ok (.ifCond .le 10, 3) := by decide +kernel
theorem d_Z_same_27 : decode b_Z_same 27 = .ok (.aload_n 0, 1) := by decide +kernel
theorem d_Z_same_28 : decode b_Z_same 28 = .ok (.iconst 2, 1) := by decide +kernel
theorem d_Z_same_29 : decode b_Z_same 29 = .ok (.putfield 57, 3) := by decide +kernel
theorem d_Z_same_32 : decode b_Z_same 32 = .ok (.iconst 0, 1) := by decide +kernel
theorem d_Z_same_33 : decode b_Z_same 33 = .ok (.ireturn, 1) := by decide +kernel
theorem d_Z_same_34 : decode b_Z_same 34 = .ok (.aload_n 0, 1) := by decide +kernel
theorem d_Z_same_35 : decode b_Z_same 35 = .ok (.lload_n 2, 1) := by decide +kernel
theorem d_Z_same_36 : decode b_Z_same 36 = .ok (.lload 4, 2) := by decide +kernel
theorem d_Z_same_38 : decode b_Z_same 38 = .ok (.invokevirtual 137, 3) := by decide +kernel
theorem d_Z_same_41 : decode b_Z_same 41 = .ok (.aload_n 0, 1) := by decide +kernel
theorem d_Z_same_42 : decode b_Z_same 42 = .ok (.iload_n 1, 1) := by decide +kernel
theorem d_Z_same_43 : decode b_Z_same 43 = .ok (.invokevirtual 149, 3) := by decide +kernel
theorem d_Z_same_46 : decode b_Z_same 46 = .ok (.aload_n 0, 1) := by decide +kernel
theorem d_Z_same_47 : decode b_Z_same 47 = .ok (.getfield 124, 3) := by decide +kernel
theorem d_Z_same_50 : decode b_Z_same 50 = .ok (.istore 6, 2) := by decide +kernel
theorem d_Z_same_52 : decode b_Z_same 52 = .ok (.aload_n 0, 1) := by decide +kernel
theorem d_Z_same_53 : decode b_Z_same 53 = .ok (.getfield 127, 3) := by decide +kernel
theorem d_Z_same_56 : decode b_Z_same 56 = .ok (.istore 7, 2) := by decide +kernel
theorem d_Z_same_58 : decode b_Z_same 58 = .ok (.iconst 0, 1) := by decide +kernel
theorem d_Z_same_59 : decode b_Z_same 59 = .ok (.istore 8, 2) := by decide +kernel
theorem d_Z_same_61 : decode b_Z_same 61 = .ok (.iload 8, 2) := by decide +kernel
theorem d_Z_same_63 : decode b_Z_same 63 = .ok (.iconst 4, 1) := by decide +kernel
theorem d_Z_same_64 : decode b_Z_same 64 = .ok (.if_icmp .ge 23, 3) := by decide +kernel
theorem d_Z_same_67 : decode b_Z_same 67 = .ok (.aload_n 0, 1) := by decide +kernel
theorem d_Z_same_68 : decode b_Z_same 68 = .ok (.getfield 50, 3) := by decide +kernel
theorem d_Z_same_71 : decode b_Z_same 71 = .ok (.iload 8, 2) := by decide +kernel
theorem d_Z_same_73 : decode b_Z_same 73 = .ok (.aload_n 0, 1) := by decide +kernel
theorem d_Z_same_74 : decode b_Z_same 74 = .ok (.getfield 40, 3) := by decide +kernel
theorem d_Z_same_77 : decode b_Z_same 77 = .ok (.iload 8, 2) := by decide +kernel
theorem d_Z_same_79 : decode b_Z_same 79 = .ok (.laload, 1) := by decide +kernel
theorem d_Z_same_80 : decode b_Z_same 80 = .ok (.lastore, 1) := by decide +kernel
theorem d_Z_same_81 : decode b_Z_same 81 = .ok (.iinc 8 1, 3) := by decide +kernel
theorem d_Z_same_84 : decode b_Z_same 84 = .ok (.goto (-23), 3) := by decide +kernel
theorem d_Z_same_87 : decode b_Z_same 87 = .ok (.aload_n 0, 1) := by decide +kernel
theorem d_Z_same_88 : decode b_Z_same 88 = .ok (.lload_n 2, 1) := by decide +kernel
theorem d_Z_same_89 : decode b_Z_same 89 = .ok (.lload 4, 2) := by decide +kernel
theorem d_Z_same_91 : decode b_Z_same 91 = .ok (.invokevirtual 137, 3) := by decide +kernel
theorem d_Z_same_94 : decode b_Z_same 94 = .ok (.aload_n 0, 1) := by decide +kernel
theorem d_Z_same_95 : decode b_Z_same 95 = .ok (.iload_n 1, 1) := by decide +kernel
theorem d_Z_same_96 : decode b_Z_same 96 = .ok (.invokevirtual 145, 3) := by decide +kernel
theorem d_Z_same_99 : decode b_Z_same 99 = .ok (.aload_n 0, 1) := by decide +kernel
theorem d_Z_same_100 : decode b_Z_same 100 = .ok (.getfield 124, 3) := by decide +kernel
theorem d_Z_same_103 : decode b_Z_same 103 = .ok (.iload 6, 2) := by decide +kernel
theorem d_Z_same_105 : decode b_Z_same 105 = .ok (.if_icmp .ne 16, 3) := by decide +kernel
theorem d_Z_same_108 : decode b_Z_same 108 = .ok (.aload_n 0, 1) := by decide +kernel
theorem d_Z_same_109 : decode b_Z_same 109 = .ok (.getfield 127, 3) := by decide +kernel
theorem d_Z_same_112 : decode b_Z_same 112 = .ok (.iload 7, 2) := by decide +kernel
theorem d_Z_same_114 : decode b_Z_same 114 = .ok (.if_icmp .ne 7, 3) := by decide +kernel
theorem d_Z_same_117 : decode b_Z_same 117 = .ok (.iconst 1, 1) := by decide +kernel
theorem d_Z_same_118 : decode b_Z_same 118 = .ok (.goto 4, 3) := by decide +kernel
theorem d_Z_same_121 : decode b_Z_same 121 = .ok (.iconst 0, 1) := by decide +kernel
theorem d_Z_same_122 : decode b_Z_same 122 = .ok (.istore 8, 2) := by decide +kernel
theorem d_Z_same_124 : decode b_Z_same 124 = .ok (.iconst 0, 1) := by decide +kernel
theorem d_Z_same_125 : decode b_Z_same 125 = .ok (.istore 9, 2) := by decide +kernel
theorem d_Z_same_127 : decode b_Z_same 127 = .ok (.iload 9, 2) := by decide +kernel
theorem d_Z_same_129 : decode b_Z_same 129 = .ok (.iconst 4, 1) := by decide +kernel
theorem d_Z_same_130 : decode b_Z_same 130 = .ok (.if_icmp .ge 39, 3) := by decide +kernel
theorem d_Z_same_133 : decode b_Z_same 133 = .ok (.iload 8, 2) := by decide +kernel
theorem d_Z_same_135 : decode b_Z_same 135 = .ok (.ifCond .eq 25, 3) := by decide +kernel
theorem d_Z_same_138 : decode b_Z_same 138 = .ok (.aload_n 0, 1) := by decide +kernel
theorem d_Z_same_139 : decode b_Z_same 139 = .ok (.getfield 50, 3) := by decide +kernel
theorem d_Z_same_142 : decode b_Z_same 142 = .ok (.iload 9, 2) := by decide +kernel
theorem d_Z_same_144 : decode b_Z_same 144 = .ok (.laload, 1) := by decide +kernel
theorem d_Z_same_145 : decode b_Z_same 145 = .ok (.aload_n 0, 1) := by decide +kernel
theorem d_Z_same_146 : decode b_Z_same 146 = .ok (.getfield 40, 3) := by decide +kernel
theorem d_Z_same_149 : decode b_Z_same 149 = .ok (.iload 9, 2) := by decide +kernel
theorem d_Z_same_151 : decode b_Z_same 151 = .ok (.laload, 1) := by decide +kernel
theorem d_Z_same_152 : decode b_Z_same 152 = .ok (.lcmp, 1) := by decide +kernel
theorem d_Z_same_153 : decode b_Z_same 153 = .ok (.ifCond .ne 7, 3) := by decide +kernel
theorem d_Z_same_156 : decode b_Z_same 156 = .ok (.iconst 1, 1) := by decide +kernel
theorem d_Z_same_157 : decode b_Z_same 157 = .ok (.goto 4, 3) := by decide +kernel
theorem d_Z_same_160 : decode b_Z_same 160 = .ok (.iconst 0, 1) := by decide +kernel
theorem d_Z_same_161 : decode b_Z_same 161 = .ok (.istore 8, 2) := by decide +kernel
theorem d_Z_same_163 : decode b_Z_same 163 = .ok (.iinc 9 1, 3) := by decide +kernel
theorem d_Z_same_166 : decode b_Z_same 166 = .ok (.goto (-39), 3) := by decide +kernel
theorem d_Z_same_169 : decode b_Z_same 169 = .ok (.iload 8, 2) := by decide +kernel
theorem d_Z_same_171 : decode b_Z_same 171 = .ok (.ireturn, 1) := by decide +kernel
theorem d_Z_count_0 : decode b_Z_count 0 = .ok (.aload_n 0, 1) := by decide +kernel
theorem d_Z_count_1 : decode b_Z_count 1 = .ok (.iconst 0, 1) := by decide +kernel
theorem d_Z_count_2 : decode b_Z_count 2 = .ok (.putfield 57, 3) := by decide +kernel
theorem d_Z_count_5 : decode b_Z_count 5 = .ok (.iconst 0, 1) := by decide +kernel
theorem d_Z_count_6 : decode b_Z_count 6 = .ok (.istore_n 2, 1) := by decide +kernel
theorem d_Z_count_7 : decode b_Z_count 7 = .ok (.iconst 0, 1) := by decide +kernel
theorem d_Z_count_8 : decode b_Z_count 8 = .ok (.istore_n 3, 1) := by decide +kernel
theorem d_Z_count_9 : decode b_Z_count 9 = .ok (.iconst 0, 1) := by decide +kernel
theorem d_Z_count_10 : decode b_Z_count 10 = .ok (.istore 4, 2) := by decide +kernel
theorem d_Z_count_12 : decode b_Z_count 12 = .ok (.iload 4, 2) := by decide +kernel
theorem d_Z_count_14 : decode b_Z_count 14 = .ok (.aload_n 0, 1) := by decide +kernel
theorem d_Z_count_15 : decode b_Z_count 15 = .ok (.getfield 60, 3) := by decide +kernel
theorem d_Z_count_18 : decode b_Z_count 18 = .ok (.if_icmp .ge 47, 3) := by decide +kernel
theorem d_Z_count_21 : decode b_Z_count 21 = .ok (.iload_n 2, 1) := by decide +kernel
theorem d_Z_count_22 : decode b_Z_count 22 = .ok (.aload_n 0, 1) := by decide +kernel
theorem d_Z_count_23 : decode b_Z_count 23 = .ok (.getfield 22, 3) := by decide +kernel
theorem d_Z_count_26 : decode b_Z_count 26 = .ok (.iload 4, 2) := by decide +kernel
theorem d_Z_count_28 : decode b_Z_count 28 = .ok (.iaload, 1) := by decide +kernel
theorem d_Z_count_29 : decode b_Z_count 29 = .ok (.iconst 2, 1) := by decide +kernel
theorem d_Z_count_30 : decode b_Z_count 30 = .ok (.if_icmp .ne 7, 3) := by decide +kernel
theorem d_Z_count_33 : decode b_Z_count 33 = .ok (.iconst 1, 1) := by decide +kernel
theorem d_Z_count_34 : decode b_Z_count 34 = .ok (.goto 4, 3) := by decide +kernel
theorem d_Z_count_37 : decode b_Z_count 37 = .ok (.iconst 0, 1) := by decide +kernel
theorem d_Z_count_38 : decode b_Z_count 38 = .ok (.iadd, 1) := by decide +kernel
theorem d_Z_count_39 : decode b_Z_count 39 = .ok (.istore_n 2, 1) := by decide +kernel
theorem d_Z_count_40 : decode b_Z_count 40 = .ok (.iload_n 3, 1) := by decide +kernel
theorem d_Z_count_41 : decode b_Z_count 41 = .ok (.aload_n 0, 1) := by decide +kernel
theorem d_Z_count_42 : decode b_Z_count 42 = .ok (.getfield 22, 3) := by decide +kernel
theorem d_Z_count_45 : decode b_Z_count 45 = .ok (.iload 4, 2) := by decide +kernel
theorem d_Z_count_47 : decode b_Z_count 47 = .ok (.iaload, 1) := by decide +kernel
theorem d_Z_count_48 : decode b_Z_count 48 = .ok (.iconst 1, 1) := by decide +kernel
theorem d_Z_count_49 : decode b_Z_count 49 = .ok (.if_icmp .ne 7, 3) := by decide +kernel
theorem d_Z_count_52 : decode b_Z_count 52 = .ok (.iconst 1, 1) := by decide +kernel
theorem d_Z_count_53 : decode b_Z_count 53 = .ok (.goto 4, 3) := by decide +kernel
theorem d_Z_count_56 : decode b_Z_count 56 = .ok (.iconst 0, 1) := by decide +kernel
theorem d_Z_count_57 : decode b_Z_count 57 = .ok (.iadd, 1) := by decide +kernel
theorem d_Z_count_58 : decode b_Z_count 58 = .ok (.istore_n 3, 1) := by decide +kernel
theorem d_Z_count_59 : decode b_Z_count 59 = .ok (.iinc 4 1, 3) := by decide +kernel
theorem d_Z_count_62 : decode b_Z_count 62 = .ok (.goto (-50), 3) := by decide +kernel
theorem d_Z_count_65 : decode b_Z_count 65 = .ok (.iload_n 1, 1) := by decide +kernel
theorem d_Z_count_66 : decode b_Z_count 66 = .ok (.tableswitch 89 0 8 #[50, 55, 60, 65, 67, 69, 74, 79, 84], 50) := by decide +kernel
theorem d_Z_count_116 : decode b_Z_count 116 = .ok (.aload_n 0, 1) := by decide +kernel
theorem d_Z_count_117 : decode b_Z_count 117 = .ok (.getfield 60, 3) := by decide +kernel
theorem d_Z_count_120 : decode b_Z_count 120 = .ok (.ireturn, 1) := by decide +kernel
theorem d_Z_count_121 : decode b_Z_count 121 = .ok (.aload_n 0, 1) := by decide +kernel
theorem d_Z_count_122 : decode b_Z_count 122 = .ok (.getfield 96, 3) := by decide +kernel
theorem d_Z_count_125 : decode b_Z_count 125 = .ok (.ireturn, 1) := by decide +kernel
theorem d_Z_count_126 : decode b_Z_count 126 = .ok (.aload_n 0, 1) := by decide +kernel
theorem d_Z_count_127 : decode b_Z_count 127 = .ok (.invokevirtual 120, 3) := by decide +kernel
theorem d_Z_count_130 : decode b_Z_count 130 = .ok (.ireturn, 1) := by decide +kernel
theorem d_Z_count_131 : decode b_Z_count 131 = .ok (.iload_n 2, 1) := by decide +kernel
theorem d_Z_count_132 : decode b_Z_count 132 = .ok (.ireturn, 1) := by decide +kernel
theorem d_Z_count_133 : decode b_Z_count 133 = .ok (.iload_n 3, 1) := by decide +kernel
theorem d_Z_count_134 : decode b_Z_count 134 = .ok (.ireturn, 1) := by decide +kernel
theorem d_Z_count_135 : decode b_Z_count 135 = .ok (.aload_n 0, 1) := by decide +kernel
theorem d_Z_count_136 : decode b_Z_count 136 = .ok (.getfield 117, 3) := by decide +kernel
theorem d_Z_count_139 : decode b_Z_count 139 = .ok (.ireturn, 1) := by decide +kernel
theorem d_Z_count_140 : decode b_Z_count 140 = .ok (.aload_n 0, 1) := by decide +kernel
theorem d_Z_count_141 : decode b_Z_count 141 = .ok (.getfield 155, 3) := by decide +kernel
theorem d_Z_count_144 : decode b_Z_count 144 = .ok (.ireturn, 1) := by decide +kernel
theorem d_Z_count_145 : decode b_Z_count 145 = .ok (.aload_n 0, 1) := by decide +kernel
theorem d_Z_count_146 : decode b_Z_count 146 = .ok (.getfield 158, 3) := by decide +kernel
theorem d_Z_count_149 : decode b_Z_count 149 = .ok (.ireturn, 1) := by decide +kernel
theorem d_Z_count_150 : decode b_Z_count 150 = .ok (.aload_n 0, 1) := by decide +kernel
theorem d_Z_count_151 : decode b_Z_count 151 = .ok (.getfield 53, 3) := by decide +kernel
theorem d_Z_count_154 : decode b_Z_count 154 = .ok (.ireturn, 1) := by decide +kernel
theorem d_Z_count_155 : decode b_Z_count 155 = .ok (.iconst (-1), 1) := by decide +kernel
theorem d_Z_count_156 : decode b_Z_count 156 = .ok (.ireturn, 1) := by decide +kernel
