theorem d_U_init_0 : decode b_U_init 0 = .ok (.aload_n 0, 1) := by decide +kernel
theorem d_U_init_1 : decode b_U_init 1 = .ok (.invokespecial 3, 3) := by decide +kernel
theorem d_U_init_4 : decode b_U_init 4 = .ok (.aload_n 0, 1) := by decide +kernel
theorem d_U_init_5 : decode b_U_init 5 = .ok (.iconst 4, 1) := by decide +kernel
theorem d_U_init_6 : decode b_U_init 6 = .ok (.newarray .long, 2) := by decide +kernel
theorem d_U_init_8 : decode b_U_init 8 = .ok (.putfield 9, 3) := by decide +kernel
theorem d_U_init_11 : decode b_U_init 11 = .ok (.aload_n 0, 1) := by decide +kernel
theorem d_U_init_12 : decode b_U_init 12 = .ok (.iconst 4, 1) := by decide +kernel
theorem d_U_init_13 : decode b_U_init 13 = .ok (.newarray .long, 2) := by decide +kernel
theorem d_U_init_15 : decode b_U_init 15 = .ok (.putfield 15, 3) := by decide +kernel
theorem d_U_init_18 : decode b_U_init 18 = .ok (.aload_n 0, 1) := by decide +kernel
theorem d_U_init_19 : decode b_U_init 19 = .ok (.iconst 0, 1) := by decide +kernel
theorem d_U_init_20 : decode b_U_init 20 = .ok (.putfield 18, 3) := by decide +kernel
theorem d_U_init_23 : decode b_U_init 23 = .ok (.return_, 1) := by decide +kernel
theorem d_U_followBytes_0 : decode b_U_followBytes 0 = .ok (.aload_n 0, 1) := by decide +kernel
theorem d_U_followBytes_1 : decode b_U_followBytes 1 = .ok (.lload_n 2, 1) := by decide +kernel
theorem d_U_followBytes_2 : decode b_U_followBytes 2 = .ok (.lload 4, 2) := by decide +kernel
theorem d_U_followBytes_4 : decode b_U_followBytes 4 = .ok (.iconst 1, 1) := by decide +kernel
theorem d_U_followBytes_5 : decode b_U_followBytes 5 = .ok (.invokevirtual 38, 3) := by decide +kernel
theorem d_U_followBytes_8 : decode b_U_followBytes 8 = .ok (.iconst 0, 1) := by decide +kernel
theorem d_U_followBytes_9 : decode b_U_followBytes 9 = .ok (.istore 6, 2) := by decide +kernel
theorem d_U_followBytes_11 : decode b_U_followBytes 11 = .ok (.iconst 0, 1) := by decide +kernel
theorem d_U_followBytes_12 : decode b_U_followBytes 12 = .ok (.istore 7, 2) := by decide +kernel
theorem d_U_followBytes_14 : decode b_U_followBytes 14 = .ok (.iload 7, 2) := by decide +kernel
theorem d_U_followBytes_16 : decode b_U_followBytes 16 = .ok (.ldc 79, 2) := by decide +kernel
theorem d_U_followBytes_18 : decode b_U_followBytes 18 = .ok (.if_icmp .ge 69, 3) := by decide +kernel
theorem d_U_followBytes_21 : decode b_U_followBytes 21 = .ok (.aload_n 1, 1) := by decide +kernel
theorem d_U_followBytes_22 : decode b_U_followBytes 22 = .ok (.iload 6, 2) := by decide +kernel
theorem d_U_followBytes_24 : decode b_U_followBytes 24 = .ok (.invokevirtual 80, 3) := by decide +kernel
theorem d_U_followBytes_27 : decode b_U_followBytes 27 = .ok (.istore 8, 2) := by decide +kernel
theorem d_U_followBytes_29 : decode b_U_followBytes 29 = .ok (.iload 8, 2) := by decide +kernel
theorem d_U_followBytes_31 : decode b_U_followBytes 31 = .ok (.bipush 10, 2) := by decide +kernel
theorem d_U_followBytes_33 : decode b_U_followBytes 33 = .ok (.if_icmp .ne 4, 3) := by decide +kernel
theorem d_U_followBytes_36 : decode b_U_followBytes 36 = .ok (.return_, 1) := by decide +kernel
theorem d_U_followBytes_37 : decode b_U_followBytes 37 = .ok (.aload_n 0, 1) := by decide +kernel
theorem d_U_followBytes_38 : decode b_U_followBytes 38 = .ok (.getfield 31, 3) := by decide +kernel
theorem d_U_followBytes_41 : decode b_U_followBytes 41 = .ok (.sipush 2000, 3) := by decide +kernel
theorem d_U_followBytes_44 : decode b_U_followBytes 44 = .ok (.if_icmp .lt 6, 3) := by decide +kernel
theorem d_U_followBytes_47 : decode b_U_followBytes 47 = .ok (.goto 40, 3) := by decide +kernel
theorem d_U_followBytes_50 : decode b_U_followBytes 50 = .ok (.iload 8, 2) := by decide +kernel
theorem d_U_followBytes_52 : decode b_U_followBytes 52 = .ok (.bipush 7, 2) := by decide +kernel
theorem d_U_followBytes_54 : decode b_U_followBytes 54 = .ok (.if_icmp .ne 16, 3) := by decide +kernel
theorem d_U_followBytes_57 : decode b_U_followBytes 57 = .ok (.aload_n 0, 1) := by decide +kernel
theorem d_U_followBytes_58 : decode b_U_followBytes 58 = .ok (.invokevirtual 84, 3) := by decide +kernel
theorem d_U_followBytes_61 : decode b_U_followBytes 61 = .ok (.ifCond .eq 9, 3) := by decide +kernel
theorem d_U_followBytes_64 : decode b_U_followBytes 64 = .ok (.aload_n 0, 1) := by decide +kernel
theorem d_U_followBytes_65 : decode b_U_followBytes 65 = .ok (.iconst 1, 1) := by decide +kernel
theorem d_U_followBytes_66 : decode b_U_followBytes 66 = .ok (.putfield 18, 3) := by decide +kernel
theorem d_U_followBytes_69 : decode b_U_followBytes 69 = .ok (.return_, 1) := by decide +kernel
theorem d_U_followBytes_70 : decode b_U_followBytes 70 = .ok (.aload_n 0, 1) := by decide +kernel
theorem d_U_followBytes_71 : decode b_U_followBytes 71 = .ok (.aload_n 1, 1) := by decide +kernel
theorem d_U_followBytes_72 : decode b_U_followBytes 72 = .ok (.iload 6, 2) := by decide +kernel
theorem d_U_followBytes_74 : decode b_U_followBytes 74 = .ok (.iload 8, 2) := by decide +kernel
theorem d_U_followBytes_76 : decode b_U_followBytes 76 = .ok (.invokevirtual 88, 3) := by decide +kernel
theorem d_U_followBytes_79 : decode b_U_followBytes 79 = .ok (.istore 6, 2) := by decide +kernel
theorem d_U_followBytes_81 : decode b_U_followBytes 81 = .ok (.iinc 7 1, 3) := by decide +kernel
theorem d_U_followBytes_84 : decode b_U_followBytes 84 = .ok (.goto (-70), 3) := by decide +kernel
theorem d_U_followBytes_87 : decode b_U_followBytes 87 = .ok (.aload_n 0, 1) := by decide +kernel
theorem d_U_followBytes_88 : decode b_U_followBytes 88 = .ok (.iconst 2, 1) := by decide +kernel
theorem d_U_followBytes_89 : decode b_U_followBytes 89 = .ok (.putfield 18, 3) := by decide +kernel
theorem d_U_followBytes_92 : decode b_U_followBytes 92 = .ok (.return_, 1) := by decide +kernel
theorem d_U_begin_0 : decode b_U_begin 0 = .ok (.aload_n 0, 1) := by decide +kernel
theorem d_U_begin_1 : decode b_U_begin 1 = .ok (.getfield 9, 3) := by decide +kernel
theorem d_U_begin_4 : decode b_U_begin 4 = .ok (.lconst 0, 1) := by decide +kernel
theorem d_U_begin_5 : decode b_U_begin 5 = .ok (.invokestatic 22, 3) := by decide +kernel
theorem d_U_begin_8 : decode b_U_begin 8 = .ok (.aload_n 0, 1) := by decide +kernel
theorem d_U_begin_9 : decode b_U_begin 9 = .ok (.getfield 9, 3) := by decide +kernel
theorem d_U_begin_12 : decode b_U_begin 12 = .ok (.iconst 0, 1) := by decide +kernel
theorem d_U_begin_13 : decode b_U_begin 13 = .ok (.lload_n 1, 1) := by decide +kernel
theorem d_U_begin_14 : decode b_U_begin 14 = .ok (.lastore, 1) := by decide +kernel
theorem d_U_begin_15 : decode b_U_begin 15 = .ok (.aload_n 0, 1) := by decide +kernel
theorem d_U_begin_16 : decode b_U_begin 16 = .ok (.getfield 9, 3) := by decide +kernel
theorem d_U_begin_19 : decode b_U_begin 19 = .ok (.iconst 1, 1) := by decide +kernel
theorem d_U_begin_20 : decode b_U_begin 20 = .ok (.lload_n 3, 1) := by decide +kernel
theorem d_U_begin_21 : decode b_U_begin 21 = .ok (.lastore, 1) := by decide +kernel
theorem d_U_begin_22 : decode b_U_begin 22 = .ok (.aload_n 0, 1) := by decide +kernel
theorem d_U_begin_23 : decode b_U_begin 23 = .ok (.iconst 0, 1) := by decide +kernel
theorem d_U_begin_24 : decode b_U_begin 24 = .ok (.putfield 28, 3) := by decide +kernel
theorem d_U_begin_27 : decode b_U_begin 27 = .ok (.aload_n 0, 1) := by decide +kernel
theorem d_U_begin_28 : decode b_U_begin 28 = .ok (.iconst 0, 1) := by decide +kernel
theorem d_U_begin_29 : decode b_U_begin 29 = .ok (.putfield 31, 3) := by decide +kernel
theorem d_U_begin_32 : decode b_U_begin 32 = .ok (.aload_n 0, 1) := by decide +kernel
theorem d_U_begin_33 : decode b_U_begin 33 = .ok (.iconst 0, 1) := by decide +kernel
theorem d_U_begin_34 : decode b_U_begin 34 = .ok (.putfield 18, 3) := by decide +kernel
theorem d_U_begin_37 : decode b_U_begin 37 = .ok (.aload_n 0, 1) := by decide +kernel
theorem d_U_begin_38 : decode b_U_begin 38 = .ok (.iload 5, 2) := by decide +kernel
theorem d_U_begin_40 : decode b_U_begin 40 = .ok (.putfield 34, 3) := by decide +kernel
theorem d_U_begin_43 : decode b_U_begin 43 = .ok (.return_, 1) := by decide +kernel
theorem d_U_topIsZero_0 : decode b_U_topIsZero 0 = .ok (.aload_n 0, 1) := by decide +kernel
theorem d_U_topIsZero_1 : decode b_U_topIsZero 1 = .ok (.getfield 28, 3) := by decide +kernel
theorem d_U_topIsZero_4 : decode b_U_topIsZero 4 = .ok (.ifCond .le 23, 3) := by decide +kernel
theorem d_U_topIsZero_7 : decode b_U_topIsZero 7 = .ok (.aload_n 0, 1) := by decide +kernel
theorem d_U_topIsZero_8 : decode b_U_topIsZero 8 = .ok (.getfield 15, 3) := by decide +kernel
theorem d_U_topIsZero_11 : decode b_U_topIsZero 11 = .ok (.aload_n 0, 1) := by decide +kernel
theorem d_U_topIsZero_12 : decode b_U_topIsZero 12 = .ok (.getfield 28, 3) := by decide +kernel
theorem d_U_topIsZero_15 : decode b_U_topIsZero 15 = .ok (.iconst 1, 1) := by decide +kernel
theorem d_U_topIsZero_16 : decode b_U_topIsZero 16 = .ok (.isub, 1) := by decide +kernel
theorem d_U_topIsZero_17 : decode b_U_topIsZero 17 = .ok (.laload, 1) := by decide +kernel
theorem d_U_topIsZero_18 : decode b_U_topIsZero 18 = .ok (.lconst 0, 1) := by decide +kernel
theorem d_U_topIsZero_19 : decode b_U_topIsZero 19 = .ok (.lcmp, 1) := by decide +kernel
theorem d_U_topIsZero_20 : decode b_U_topIsZero 20 = .ok (.ifCond .ne 7, 3) := by decide +kernel
theorem d_U_topIsZero_23 : decode b_U_topIsZero 23 = .ok (.iconst 1, 1) := by decide +kernel
theorem d_U_topIsZero_24 : decode b_U_topIsZero 24 = .ok (.goto 4, 3) := by decide +kernel
theorem d_U_topIsZero_27 : decode b_U_topIsZero 27 = .ok (.iconst 0, 1) := by decide +kernel
theorem d_U_topIsZero_28 : decode b_U_topIsZero 28 = .ok (.ireturn, 1) := by decide +kernel
theorem d_U_follow_0 : decode b_U_follow 0 = .ok (.iload_n 3, 1) := by decide +kernel
theorem d_U_follow_1 : decode b_U_follow 1 = .ok (.lookupswitch 155 #[(1, 51), (2, 69), (3, 97), (9, 128), (16, 112)], 51) := by decide +kernel
theorem d_U_follow_52 : decode b_U_follow 52 = .ok (.aload_n 0, 1) := by decide +kernel
theorem d_U_follow_53 : decode b_U_follow 53 = .ok (.aload_n 0, 1) := by decide +kernel
theorem d_U_follow_54 : decode b_U_follow 54 = .ok (.aload_n 1, 1) := by decide +kernel
theorem d_U_follow_55 : decode b_U_follow 55 = .ok (.iload_n 2, 1) := by decide +kernel
theorem d_U_follow_56 : decode b_U_follow 56 = .ok (.iconst 1, 1) := by decide +kernel
theorem d_U_follow_57 : decode b_U_follow 57 = .ok (.iadd, 1) := by decide +kernel
theorem d_U_follow_58 : decode b_U_follow 58 = .ok (.invokevirtual 80, 3) := by decide +kernel
theorem d_U_follow_61 : decode b_U_follow 61 = .ok (.invokevirtual 63, 3) := by decide +kernel
theorem d_U_follow_64 : decode b_U_follow 64 = .ok (.invokevirtual 92, 3) := by decide +kernel
theorem d_U_follow_67 : decode b_U_follow 67 = .ok (.goto 96, 3) := by decide +kernel
theorem d_U_follow_70 : decode b_U_follow 70 = .ok (.aload_n 0, 1) := by decide +kernel
theorem d_U_follow_71 : decode b_U_follow 71 = .ok (.aload_n 1, 1) := by decide +kernel
theorem d_U_follow_72 : decode b_U_follow 72 = .ok (.iload_n 2, 1) := by decide +kernel
theorem d_U_follow_73 : decode b_U_follow 73 = .ok (.iconst 1, 1) := by decide +kernel
theorem d_U_follow_74 : decode b_U_follow 74 = .ok (.iadd, 1) := by decide +kernel
theorem d_U_follow_75 : decode b_U_follow 75 = .ok (.invokevirtual 80, 3) := by decide +kernel
theorem d_U_follow_78 : decode b_U_follow 78 = .ok (.aload_n 0, 1) := by decide +kernel
theorem d_U_follow_79 : decode b_U_follow 79 = .ok (.invokevirtual 96, 3) := by decide +kernel
theorem d_U_follow_82 : decode b_U_follow 82 = .ok (.invokevirtual 71, 3) := by decide +kernel
theorem d_U_follow_85 : decode b_U_follow 85 = .ok (.aload_n 0, 1) := by decide +kernel
theorem d_U_follow_86 : decode b_U_follow 86 = .ok (.dup, 1) := by decide +kernel
theorem d_U_follow_87 : decode b_U_follow 87 = .ok (.getfield 31, 3) := by decide +kernel
theorem d_U_follow_90 : decode b_U_follow 90 = .ok (.iconst 1, 1) := by decide +kernel
theorem d_U_follow_91 : decode b_U_follow 91 = .ok (.iadd, 1) := by decide +kernel
theorem d_U_follow_92 : decode b_U_follow 92 = .ok (.putfield 31, 3) := by decide +kernel
theorem d_U_follow_95 : decode b_U_follow 95 = .ok (.goto 68, 3) := by decide +kernel
theorem d_U_follow_98 : decode b_U_follow 98 = .ok (.aload_n 0, 1) := by decide +kernel
theorem d_U_follow_99 : decode b_U_follow 99 = .ok (.aload_n 1, 1) := by decide +kernel
theorem d_U_follow_100 : decode b_U_follow 100 = .ok (.iload_n 2, 1) := by decide +kernel
theorem d_U_follow_101 : decode b_U_follow 101 = .ok (.iconst 1, 1) := by decide +kernel
theorem d_U_follow_102 : decode b_U_follow 102 = .ok (.iadd, 1) := by decide +kernel
theorem d_U_follow_103 : decode b_U_follow 103 = .ok (.invokevirtual 100, 3) := by decide +kernel
theorem d_U_follow_106 : decode b_U_follow 106 = .ok (.i2l, 1) := by decide +kernel
theorem d_U_follow_107 : decode b_U_follow 107 = .ok (.invokevirtual 92, 3) := by decide +kernel
theorem d_U_follow_110 : decode b_U_follow 110 = .ok (.goto 53, 3) := by decide +kernel
theorem d_U_follow_113 : decode b_U_follow 113 = .ok (.aload_n 0, 1) := by decide +kernel
theorem d_U_follow_114 : decode b_U_follow 114 = .ok (.aload_n 1, 1) := by decide +kernel
theorem d_U_follow_115 : decode b_U_follow 115 = .ok (.iload_n 2, 1) := by decide +kernel
theorem d_U_follow_116 : decode b_U_follow 116 = .ok (.iconst 1, 1) := by decide +kernel
theorem d_U_follow_117 : decode b_U_follow 117 = .ok (.iadd, 1) := by decide +kernel
theorem d_U_follow_118 : decode b_U_follow 118 = .ok (.invokevirtual 80, 3) := by decide +kernel
theorem d_U_follow_121 : decode b_U_follow 121 = .ok (.i2b, 1) := by decide +kernel
theorem d_U_follow_122 : decode b_U_follow 122 = .ok (.i2l, 1) := by decide +kernel
theorem d_U_follow_123 : decode b_U_follow 123 = .ok (.invokevirtual 92, 3) := by decide +kernel
theorem d_U_follow_126 : decode b_U_follow 126 = .ok (.goto 37, 3) := by decide +kernel
theorem d_U_follow_129 : decode b_U_follow 129 = .ok (.aload_n 0, 1) := by decide +kernel
theorem d_U_follow_130 : decode b_U_follow 130 = .ok (.dup, 1) := by decide +kernel
theorem d_U_follow_131 : decode b_U_follow 131 = .ok (.getfield 31, 3) := by decide +kernel
theorem d_U_follow_134 : decode b_U_follow 134 = .ok (.iconst 1, 1) := by decide +kernel
theorem d_U_follow_135 : decode b_U_follow 135 = .ok (.iadd, 1) := by decide +kernel
theorem d_U_follow_136 : decode b_U_follow 136 = .ok (.putfield 31, 3) := by decide +kernel
theorem d_U_follow_139 : decode b_U_follow 139 = .ok (.aload_n 0, 1) := by decide +kernel
theorem d_U_follow_140 : decode b_U_follow 140 = .ok (.invokevirtual 96, 3) := by decide +kernel
theorem d_U_follow_143 : decode b_U_follow 143 = .ok (.lconst 0, 1) := by decide +kernel
theorem d_U_follow_144 : decode b_U_follow 144 = .ok (.lcmp, 1) := by decide +kernel
theorem d_U_follow_145 : decode b_U_follow 145 = .ok (.ifCond .eq 18, 3) := by decide +kernel
theorem d_U_follow_148 : decode b_U_follow 148 = .ok (.aload_n 1, 1) := by decide +kernel
theorem d_U_follow_149 : decode b_U_follow 149 = .ok (.iload_n 2, 1) := by decide +kernel
theorem d_U_follow_150 : decode b_U_follow 150 = .ok (.iconst 1, 1) := by decide +kernel
theorem d_U_follow_151 : decode b_U_follow 151 = .ok (.iadd, 1) := by decide +kernel
theorem d_U_follow_152 : decode b_U_follow 152 = .ok (.invokevirtual 103, 3) := by decide +kernel
theorem d_U_follow_155 : decode b_U_follow 155 = .ok (.ireturn, 1) := by decide +kernel
theorem d_U_follow_156 : decode b_U_follow 156 = .ok (.aload_n 0, 1) := by decide +kernel
theorem d_U_follow_157 : decode b_U_follow 157 = .ok (.iload_n 3, 1) := by decide +kernel
theorem d_U_follow_158 : decode b_U_follow 158 = .ok (.iconst 3, 1) := by decide +kernel
theorem d_U_follow_159 : decode b_U_follow 159 = .ok (.isub, 1) := by decide +kernel
theorem d_U_follow_160 : decode b_U_follow 160 = .ok (.invokevirtual 106, 3) := by decide +kernel
theorem d_U_follow_163 : decode b_U_follow 163 = .ok (.iload_n 2, 1) := by decide +kernel
theorem d_U_follow_164 : decode b_U_follow 164 = .ok (.iload_n 3, 1) := by decide +kernel
theorem d_U_follow_165 : decode b_U_follow 165 = .ok (.invokestatic 110, 3) := by decide +kernel
theorem d_U_follow_168 : decode b_U_follow 168 = .ok (.iadd, 1) := by decide +kernel
theorem d_U_follow_169 : decode b_U_follow 169 = .ok (.ireturn, 1) := by decide +kernel
theorem d_U_load_0 : decode b_U_load 0 = .ok (.iload_n 1, 1) := by decide +kernel
theorem d_U_load_1 : decode b_U_load 1 = .ok (.invokestatic 113, 3) := by decide +kernel
theorem d_U_load_4 : decode b_U_load 4 = .ok (.ifCond .eq 12, 3) := by decide +kernel
theorem d_U_load_7 : decode b_U_load 7 = .ok (.aload_n 0, 1) := by decide +kernel
theorem d_U_load_8 : decode b_U_load 8 = .ok (.getfield 9, 3) := by decide +kernel
theorem d_U_load_11 : decode b_U_load 11 = .ok (.iload_n 1, 1) := by decide +kernel
theorem d_U_load_12 : decode b_U_load 12 = .ok (.laload, 1) := by decide +kernel
theorem d_U_load_13 : decode b_U_load 13 = .ok (.goto 4, 3) := by decide +kernel
theorem d_U_load_16 : decode b_U_load 16 = .ok (.lconst 0, 1) := by decide +kernel
theorem d_U_load_17 : decode b_U_load 17 = .ok (.lreturn, 1) := by decide +kernel
theorem d_U_push_0 : decode b_U_push 0 = .ok (.aload_n 0, 1) := by decide +kernel
theorem d_U_push_1 : decode b_U_push 1 = .ok (.getfield 28, 3) := by decide +kernel
theorem d_U_push_4 : decode b_U_push 4 = .ok (.iconst 4, 1) := by decide +kernel
theorem d_U_push_5 : decode b_U_push 5 = .ok (.if_icmp .ge 23, 3) := by decide +kernel
theorem d_U_push_8 : decode b_U_push 8 = .ok (.aload_n 0, 1) := by decide +kernel
theorem d_U_push_9 : decode b_U_push 9 = .ok (.getfield 15, 3) := by decide +kernel
theorem d_U_push_12 : decode b_U_push 12 = .ok (.aload_n 0, 1) := by decide +kernel
theorem d_U_push_13 : decode b_U_push 13 = .ok (.getfield 28, 3) := by decide +kernel
theorem d_U_push_16 : decode b_U_push 16 = .ok (.lload_n 1, 1) := by decide +kernel
theorem d_U_push_17 : decode b_U_push 17 = .ok (.lastore, 1) := by decide +kernel
theorem d_U_push_18 : decode b_U_push 18 = .ok (.aload_n 0, 1) := by decide +kernel
theorem d_U_push_19 : decode b_U_push 19 = .ok (.dup, 1) := by decide +kernel
theorem d_U_push_20 : decode b_U_push 20 = .ok (.getfield 28, 3) := by decide +kernel
theorem d_U_push_23 : decode b_U_push 23 = .ok (.iconst 1, 1) := by decide +kernel
theorem d_U_push_24 : decode b_U_push 24 = .ok (.iadd, 1) := by decide +kernel
theorem d_U_push_25 : decode b_U_push 25 = .ok (.putfield 28, 3) := by decide +kernel
theorem d_U_push_28 : decode b_U_push 28 = .ok (.return_, 1) := by decide +kernel
theorem d_U_pop_0 : decode b_U_pop 0 = .ok (.aload_n 0, 1) := by decide +kernel
theorem d_U_pop_1 : decode b_U_pop 1 = .ok (.getfield 28, 3) := by decide +kernel
theorem d_U_pop_4 : decode b_U_pop 4 = .ok (.iconst 1, 1) := by decide +kernel
theorem d_U_pop_5 : decode b_U_pop 5 = .ok (.if_icmp .ge 5, 3) := by decide +kernel
theorem d_U_pop_8 : decode b_U_pop 8 = .ok (.lconst 0, 1) := by decide +kernel
theorem d_U_pop_9 : decode b_U_pop 9 = .ok (.lreturn, 1) := by decide +kernel
theorem d_U_pop_10 : decode b_U_pop 10 = .ok (.aload_n 0, 1) := by decide +kernel
theorem d_U_pop_11 : decode b_U_pop 11 = .ok (.dup, 1) := by decide +kernel
theorem d_U_pop_12 : decode b_U_pop 12 = .ok (.getfield 28, 3) := by decide +kernel
theorem d_U_pop_15 : decode b_U_pop 15 = .ok (.iconst 1, 1) := by decide +kernel
theorem d_U_pop_16 : decode b_U_pop 16 = .ok (.isub, 1) := by decide +kernel
theorem d_U_pop_17 : decode b_U_pop 17 = .ok (.putfield 28, 3) := by decide +kernel
theorem d_U_pop_20 : decode b_U_pop 20 = .ok (.aload_n 0, 1) := by decide +kernel
theorem d_U_pop_21 : decode b_U_pop 21 = .ok (.getfield 15, 3) := by decide +kernel
theorem d_U_pop_24 : decode b_U_pop 24 = .ok (.aload_n 0, 1) := by decide +kernel
theorem d_U_pop_25 : decode b_U_pop 25 = .ok (.getfield 28, 3) := by decide +kernel
theorem d_U_pop_28 : decode b_U_pop 28 = .ok (.laload, 1) := by decide +kernel
theorem d_U_pop_29 : decode b_U_pop 29 = .ok (.lreturn, 1) := by decide +kernel
theorem d_U_store_0 : decode b_U_store 0 = .ok (.iload_n 1, 1) := by decide +kernel
theorem d_U_store_1 : decode b_U_store 1 = .ok (.invokestatic 113, 3) := by decide +kernel
theorem d_U_store_4 : decode b_U_store 4 = .ok (.ifCond .eq 10, 3) := by decide +kernel
theorem d_U_store_7 : decode b_U_store 7 = .ok (.aload_n 0, 1) := by decide +kernel
theorem d_U_store_8 : decode b_U_store 8 = .ok (.getfield 9, 3) := by decide +kernel
theorem d_U_store_11 : decode b_U_store 11 = .ok (.iload_n 1, 1) := by decide +kernel
theorem d_U_store_12 : decode b_U_store 12 = .ok (.lload_n 2, 1) := by decide +kernel
theorem d_U_store_13 : decode b_U_store 13 = .ok (.lastore, 1) := by decide +kernel
theorem d_U_store_14 : decode b_U_store 14 = .ok (.return_, 1) := by decide +kernel
theorem d_U_workOnPile_0 : decode b_U_workOnPile 0 = .ok (.aload_n 0, 1) := by decide +kernel
theorem d_U_workOnPile_1 : decode b_U_workOnPile 1 = .ok (.invokevirtual 96, 3) := by decide +kernel
theorem d_U_workOnPile_4 : decode b_U_workOnPile 4 = .ok (.lstore_n 2, 1) := by decide +kernel
theorem d_U_workOnPile_5 : decode b_U_workOnPile 5 = .ok (.aload_n 0, 1) := by decide +kernel
theorem d_U_workOnPile_6 : decode b_U_workOnPile 6 = .ok (.invokevirtual 96, 3) := by decide +kernel
theorem d_U_workOnPile_9 : decode b_U_workOnPile 9 = .ok (.lstore 4, 2) := by decide +kernel
theorem d_U_workOnPile_11 : decode b_U_workOnPile 11 = .ok (.aload_n 0, 1) := by decide +kernel
theorem d_U_workOnPile_12 : decode b_U_workOnPile 12 = .ok (.iload_n 1, 1) := by decide +kernel
theorem d_U_workOnPile_13 : decode b_U_workOnPile 13 = .ok (.lload 4, 2) := by decide +kernel
theorem d_U_workOnPile_15 : decode b_U_workOnPile 15 = .ok (.lload_n 2, 1) := by decide +kernel
theorem d_U_workOnPile_16 : decode b_U_workOnPile 16 = .ok (.invokestatic 75, 3) := by decide +kernel
theorem d_U_workOnPile_19 : decode b_U_workOnPile 19 = .ok (.invokevirtual 92, 3) := by decide +kernel
theorem d_U_workOnPile_22 : decode b_U_workOnPile 22 = .ok (.return_, 1) := by decide +kernel
theorem d_U_worked_0 : decode b_U_worked 0 = .ok (.iload_n 0, 1) := by decide +kernel
theorem d_U_worked_1 : decode b_U_worked 1 = .ok (.tableswitch 73 1 5 #[35, 39, 43, 47, 61], 35) := by decide +kernel
theorem d_U_worked_36 : decode b_U_worked 36 = .ok (.lload_n 1, 1) := by decide +kernel
theorem d_U_worked_37 : decode b_U_worked 37 = .ok (.lload_n 3, 1) := by decide +kernel
theorem d_U_worked_38 : decode b_U_worked 38 = .ok (.ladd, 1) := by decide +kernel
theorem d_U_worked_39 : decode b_U_worked 39 = .ok (.lreturn, 1) := by decide +kernel
theorem d_U_worked_40 : decode b_U_worked 40 = .ok (.lload_n 1, 1) := by decide +kernel
theorem d_U_worked_41 : decode b_U_worked 41 = .ok (.lload_n 3, 1) := by decide +kernel
theorem d_U_worked_42 : decode b_U_worked 42 = .ok (.lsub, 1) := by decide +kernel
theorem d_U_worked_43 : decode b_U_worked 43 = .ok (.lreturn, 1) := by decide +kernel
theorem d_U_worked_44 : decode b_U_worked 44 = .ok (.lload_n 1, 1) := by decide +kernel
theorem d_U_worked_45 : decode b_U_worked 45 = .ok (.lload_n 3, 1) := by decide +kernel
theorem d_U_worked_46 : decode b_U_worked 46 = .ok (.lmul, 1) := by decide +kernel
theorem d_U_worked_47 : decode b_U_worked 47 = .ok (.lreturn, 1) := by decide +kernel
theorem d_U_worked_48 : decode b_U_worked 48 = .ok (.lload_n 3, 1) := by decide +kernel
theorem d_U_worked_49 : decode b_U_worked 49 = .ok (.lconst 0, 1) := by decide +kernel
theorem d_U_worked_50 : decode b_U_worked 50 = .ok (.lcmp, 1) := by decide +kernel
theorem d_U_worked_51 : decode b_U_worked 51 = .ok (.ifCond .ne 7, 3) := by decide +kernel
theorem d_U_worked_54 : decode b_U_worked 54 = .ok (.lconst 0, 1) := by decide +kernel
theorem d_U_worked_55 : decode b_U_worked 55 = .ok (.goto 6, 3) := by decide +kernel
theorem d_U_worked_58 : decode b_U_worked 58 = .ok (.lload_n 1, 1) := by decide +kernel
theorem d_U_worked_59 : decode b_U_worked 59 = .ok (.lload_n 3, 1) := by decide +kernel
theorem d_U_worked_60 : decode b_U_worked 60 = .ok (.ldiv, 1) := by decide +kernel
theorem d_U_worked_61 : decode b_U_worked 61 = .ok (.lreturn, 1) := by decide +kernel
theorem d_U_worked_62 : decode b_U_worked 62 = .ok (.lload_n 1, 1) := by decide +kernel
theorem d_U_worked_63 : decode b_U_worked 63 = .ok (.lload_n 3, 1) := by decide +kernel
theorem d_U_worked_64 : decode b_U_worked 64 = .ok (.lcmp, 1) := by decide +kernel
theorem d_U_worked_65 : decode b_U_worked 65 = .ok (.ifCond .ge 7, 3) := by decide +kernel
theorem d_U_worked_68 : decode b_U_worked 68 = .ok (.lconst 1, 1) := by decide +kernel
theorem d_U_worked_69 : decode b_U_worked 69 = .ok (.goto 4, 3) := by decide +kernel
theorem d_U_worked_72 : decode b_U_worked 72 = .ok (.lconst 0, 1) := by decide +kernel
theorem d_U_worked_73 : decode b_U_worked 73 = .ok (.lreturn, 1) := by decide +kernel
theorem d_U_worked_74 : decode b_U_worked 74 = .ok (.lconst 0, 1) := by decide +kernel
theorem d_U_worked_75 : decode b_U_worked 75 = .ok (.lreturn, 1) := by decide +kernel
theorem d_U_followRows_0 : decode b_U_followRows 0 = .ok (.aload_n 0, 1) := by decide +kernel
theorem d_U_followRows_1 : decode b_U_followRows 1 = .ok (.lload_n 2, 1) := by decide +kernel
theorem d_U_followRows_2 : decode b_U_followRows 2 = .ok (.lload 4, 2) := by decide +kernel
theorem d_U_followRows_4 : decode b_U_followRows 4 = .ok (.iconst 0, 1) := by decide +kernel
theorem d_U_followRows_5 : decode b_U_followRows 5 = .ok (.invokevirtual 38, 3) := by decide +kernel
theorem d_U_followRows_8 : decode b_U_followRows 8 = .ok (.aload_n 1, 1) := by decide +kernel
theorem d_U_followRows_9 : decode b_U_followRows 9 = .ok (.getfield 42, 3) := by decide +kernel
theorem d_U_followRows_12 : decode b_U_followRows 12 = .ok (.bipush 60, 2) := by decide +kernel
theorem d_U_followRows_14 : decode b_U_followRows 14 = .ok (.invokestatic 47, 3) := by decide +kernel
theorem d_U_followRows_17 : decode b_U_followRows 17 = .ok (.istore 6, 2) := by decide +kernel
theorem d_U_followRows_19 : decode b_U_followRows 19 = .ok (.iconst 0, 1) := by decide +kernel
theorem d_U_followRows_20 : decode b_U_followRows 20 = .ok (.istore 7, 2) := by decide +kernel
theorem d_U_followRows_22 : decode b_U_followRows 22 = .ok (.aload_n 0, 1) := by decide +kernel
theorem d_U_followRows_23 : decode b_U_followRows 23 = .ok (.getfield 31, 3) := by decide +kernel
theorem d_U_followRows_26 : decode b_U_followRows 26 = .ok (.sipush 2000, 3) := by decide +kernel
theorem d_U_followRows_29 : decode b_U_followRows 29 = .ok (.if_icmp .ge 129, 3) := by decide +kernel
theorem d_U_followRows_32 : decode b_U_followRows 32 = .ok (.iload 7, 2) := by decide +kernel
theorem d_U_followRows_34 : decode b_U_followRows 34 = .ok (.ifCond .lt 124, 3) := by decide +kernel
theorem d_U_followRows_37 : decode b_U_followRows 37 = .ok (.iload 7, 2) := by decide +kernel
theorem d_U_followRows_39 : decode b_U_followRows 39 = .ok (.iload 6, 2) := by decide +kernel
theorem d_U_followRows_41 : decode b_U_followRows 41 = .ok (.if_icmp .ge 117, 3) := by decide +kernel
theorem d_U_followRows_44 : decode b_U_followRows 44 = .ok (.aload_n 1, 1) := by decide +kernel
theorem d_U_followRows_45 : decode b_U_followRows 45 = .ok (.getfield 53, 3) := by decide +kernel
theorem d_U_followRows_48 : decode b_U_followRows 48 = .ok (.iload 7, 2) := by decide +kernel
theorem d_U_followRows_50 : decode b_U_followRows 50 = .ok (.iaload, 1) := by decide +kernel
theorem d_U_followRows_51 : decode b_U_followRows 51 = .ok (.istore 8, 2) := by decide +kernel
theorem d_U_followRows_53 : decode b_U_followRows 53 = .ok (.aload_n 1, 1) := by decide +kernel
theorem d_U_followRows_54 : decode b_U_followRows 54 = .ok (.getfield 57, 3) := by decide +kernel
theorem d_U_followRows_57 : decode b_U_followRows 57 = .ok (.iload 7, 2) := by decide +kernel
theorem d_U_followRows_59 : decode b_U_followRows 59 = .ok (.iaload, 1) := by decide +kernel
theorem d_U_followRows_60 : decode b_U_followRows 60 = .ok (.istore 9, 2) := by decide +kernel
theorem d_U_followRows_62 : decode b_U_followRows 62 = .ok (.aload_n 1, 1) := by decide +kernel
theorem d_U_followRows_63 : decode b_U_followRows 63 = .ok (.getfield 60, 3) := by decide +kernel
theorem d_U_followRows_66 : decode b_U_followRows 66 = .ok (.iload 7, 2) := by decide +kernel
theorem d_U_followRows_68 : decode b_U_followRows 68 = .ok (.iaload, 1) := by decide +kernel
theorem d_U_followRows_69 : decode b_U_followRows 69 = .ok (.istore 10, 2) := by decide +kernel
theorem d_U_followRows_71 : decode b_U_followRows 71 = .ok (.iload 8, 2) := by decide +kernel
theorem d_U_followRows_73 : decode b_U_followRows 73 = .ok (.iconst 4, 1) := by decide +kernel
theorem d_U_followRows_74 : decode b_U_followRows 74 = .ok (.if_icmp .ne 20, 3) := by decide +kernel
theorem d_U_followRows_77 : decode b_U_followRows 77 = .ok (.aload_n 0, 1) := by decide +kernel
theorem d_U_followRows_78 : decode b_U_followRows 78 = .ok (.iload 10, 2) := by decide +kernel
theorem d_U_followRows_80 : decode b_U_followRows 80 = .ok (.invokevirtual 63, 3) := by decide +kernel
theorem d_U_followRows_83 : decode b_U_followRows 83 = .ok (.lconst 0, 1) := by decide +kernel
theorem d_U_followRows_84 : decode b_U_followRows 84 = .ok (.lcmp, 1) := by decide +kernel
theorem d_U_followRows_85 : decode b_U_followRows 85 = .ok (.ifCond .ne 9, 3) := by decide +kernel
theorem d_U_followRows_88 : decode b_U_followRows 88 = .ok (.aload_n 0, 1) := by decide +kernel
theorem d_U_followRows_89 : decode b_U_followRows 89 = .ok (.iconst 1, 1) := by decide +kernel
theorem d_U_followRows_90 : decode b_U_followRows 90 = .ok (.putfield 18, 3) := by decide +kernel
theorem d_U_followRows_93 : decode b_U_followRows 93 = .ok (.return_, 1) := by decide +kernel
theorem d_U_followRows_94 : decode b_U_followRows 94 = .ok (.iload 8, 2) := by decide +kernel
theorem d_U_followRows_96 : decode b_U_followRows 96 = .ok (.bipush 6, 2) := by decide +kernel
theorem d_U_followRows_98 : decode b_U_followRows 98 = .ok (.if_icmp .ne 28, 3) := by decide +kernel
theorem d_U_followRows_101 : decode b_U_followRows 101 = .ok (.aload_n 0, 1) := by decide +kernel
theorem d_U_followRows_102 : decode b_U_followRows 102 = .ok (.iload 9, 2) := by decide +kernel
theorem d_U_followRows_104 : decode b_U_followRows 104 = .ok (.invokevirtual 63, 3) := by decide +kernel
theorem d_U_followRows_107 : decode b_U_followRows 107 = .ok (.lconst 0, 1) := by decide +kernel
theorem d_U_followRows_108 : decode b_U_followRows 108 = .ok (.lcmp, 1) := by decide +kernel
theorem d_U_followRows_109 : decode b_U_followRows 109 = .ok (.ifCond .eq 8, 3) := by decide +kernel
theorem d_U_followRows_112 : decode b_U_followRows 112 = .ok (.iload 10, 2) := by decide +kernel
theorem d_U_followRows_114 : decode b_U_followRows 114 = .ok (.goto 7, 3) := by decide +kernel
theorem d_U_followRows_117 : decode b_U_followRows 117 = .ok (.iload 7, 2) := by decide +kernel
theorem d_U_followRows_119 : decode b_U_followRows 119 = .ok (.iconst 1, 1) := by decide +kernel
theorem d_U_followRows_120 : decode b_U_followRows 120 = .ok (.iadd, 1) := by decide +kernel
theorem d_U_followRows_121 : decode b_U_followRows 121 = .ok (.istore 7, 2) := by decide +kernel
theorem d_U_followRows_123 : decode b_U_followRows 123 = .ok (.goto 22, 3) := by decide +kernel
theorem d_U_followRows_126 : decode b_U_followRows 126 = .ok (.aload_n 0, 1) := by decide +kernel
theorem d_U_followRows_127 : decode b_U_followRows 127 = .ok (.iload 9, 2) := by decide +kernel
theorem d_U_followRows_129 : decode b_U_followRows 129 = .ok (.aload_n 0, 1) := by decide +kernel
theorem d_U_followRows_130 : decode b_U_followRows 130 = .ok (.iload 8, 2) := by decide +kernel
theorem d_U_followRows_132 : decode b_U_followRows 132 = .ok (.iload 9, 2) := by decide +kernel
theorem d_U_followRows_134 : decode b_U_followRows 134 = .ok (.iload 10, 2) := by decide +kernel
theorem d_U_followRows_136 : decode b_U_followRows 136 = .ok (.invokevirtual 67, 3) := by decide +kernel
theorem d_U_followRows_139 : decode b_U_followRows 139 = .ok (.invokevirtual 71, 3) := by decide +kernel
theorem d_U_followRows_142 : decode b_U_followRows 142 = .ok (.iinc 7 1, 3) := by decide +kernel
theorem d_U_followRows_145 : decode b_U_followRows 145 = .ok (.aload_n 0, 1) := by decide +kernel
theorem d_U_followRows_146 : decode b_U_followRows 146 = .ok (.dup, 1) := by decide +kernel
theorem d_U_followRows_147 : decode b_U_followRows 147 = .ok (.getfield 31, 3) := by decide +kernel
theorem d_U_followRows_150 : decode b_U_followRows 150 = .ok (.iconst 1, 1) := by decide +kernel
theorem d_U_followRows_151 : decode b_U_followRows 151 = .ok (.iadd, 1) := by decide +kernel
theorem d_U_followRows_152 : decode b_U_followRows 152 = .ok (.putfield 31, 3) := by decide +kernel
theorem d_U_followRows_155 : decode b_U_followRows 155 = .ok (.goto (-133), 3) := by decide +kernel
theorem d_U_followRows_158 : decode b_U_followRows 158 = .ok (.aload_n 0, 1) := by decide +kernel
theorem d_U_followRows_159 : decode b_U_followRows 159 = .ok (.iload 7, 2) := by decide +kernel
theorem d_U_followRows_161 : decode b_U_followRows 161 = .ok (.iload 6, 2) := by decide +kernel
theorem d_U_followRows_163 : decode b_U_followRows 163 = .ok (.if_icmp .ge 7, 3) := by decide +kernel
theorem d_U_followRows_166 : decode b_U_followRows 166 = .ok (.iconst 2, 1) := by decide +kernel
theorem d_U_followRows_167 : decode b_U_followRows 167 = .ok (.goto 4, 3) := by decide +kernel
theorem d_U_followRows_170 : decode b_U_followRows 170 = .ok (.iconst 0, 1) := by decide +kernel
theorem d_U_followRows_171 : decode b_U_followRows 171 = .ok (.putfield 18, 3) := by decide +kernel
theorem d_U_followRows_174 : decode b_U_followRows 174 = .ok (.return_, 1) := by decide +kernel
theorem d_U_resultOf_0 : decode b_U_resultOf 0 = .ok (.iload_n 1, 1) := by decide +kernel
theorem d_U_resultOf_1 : decode b_U_resultOf 1 = .ok (.lookupswitch 36 #[(0, 27), (7, 30)], 27) := by decide +kernel
theorem d_U_resultOf_28 : decode b_U_resultOf 28 = .ok (.iload_n 3, 1) := by decide +kernel
theorem d_U_resultOf_29 : decode b_U_resultOf 29 = .ok (.i2l, 1) := by decide +kernel
theorem d_U_resultOf_30 : decode b_U_resultOf 30 = .ok (.lreturn, 1) := by decide +kernel
theorem d_U_resultOf_31 : decode b_U_resultOf 31 = .ok (.aload_n 0, 1) := by decide +kernel
theorem d_U_resultOf_32 : decode b_U_resultOf 32 = .ok (.iload_n 3, 1) := by decide +kernel
theorem d_U_resultOf_33 : decode b_U_resultOf 33 = .ok (.invokevirtual 63, 3) := by decide +kernel
theorem d_U_resultOf_36 : decode b_U_resultOf 36 = .ok (.lreturn, 1) := by decide +kernel
theorem d_U_resultOf_37 : decode b_U_resultOf 37 = .ok (.iload_n 1, 1) := by decide +kernel
theorem d_U_resultOf_38 : decode b_U_resultOf 38 = .ok (.aload_n 0, 1) := by decide +kernel
theorem d_U_resultOf_39 : decode b_U_resultOf 39 = .ok (.iload_n 2, 1) := by decide +kernel
theorem d_U_resultOf_40 : decode b_U_resultOf 40 = .ok (.invokevirtual 63, 3) := by decide +kernel
theorem d_U_resultOf_43 : decode b_U_resultOf 43 = .ok (.aload_n 0, 1) := by decide +kernel
theorem d_U_resultOf_44 : decode b_U_resultOf 44 = .ok (.iload_n 3, 1) := by decide +kernel
theorem d_U_resultOf_45 : decode b_U_resultOf 45 = .ok (.invokevirtual 63, 3) := by decide +kernel
theorem d_U_resultOf_48 : decode b_U_resultOf 48 = .ok (.invokestatic 75, 3) := by decide +kernel
theorem d_U_resultOf_51 : decode b_U_resultOf 51 = .ok (.lreturn, 1) := by decide +kernel
theorem d_U_didAs_0 : decode b_U_didAs 0 = .ok (.iconst 0, 1) := by decide +kernel
theorem d_U_didAs_1 : decode b_U_didAs 1 = .ok (.istore_n 2, 1) := by decide +kernel
theorem d_U_didAs_2 : decode b_U_didAs 2 = .ok (.iload_n 2, 1) := by decide +kernel
theorem d_U_didAs_3 : decode b_U_didAs 3 = .ok (.iconst 4, 1) := by decide +kernel
theorem d_U_didAs_4 : decode b_U_didAs 4 = .ok (.if_icmp .ge 27, 3) := by decide +kernel
theorem d_U_didAs_7 : decode b_U_didAs 7 = .ok (.aload_n 0, 1) := by decide +kernel
theorem d_U_didAs_8 : decode b_U_didAs 8 = .ok (.getfield 9, 3) := by decide +kernel
theorem d_U_didAs_11 : decode b_U_didAs 11 = .ok (.iload_n 2, 1) := by decide +kernel
theorem d_U_didAs_12 : decode b_U_didAs 12 = .ok (.laload, 1) := by decide +kernel
theorem d_U_didAs_13 : decode b_U_didAs 13 = .ok (.aload_n 1, 1) := by decide +kernel
theorem d_U_didAs_14 : decode b_U_didAs 14 = .ok (.getfield 9, 3) := by decide +kernel
theorem d_U_didAs_17 : decode b_U_didAs 17 = .ok (.iload_n 2, 1) := by decide +kernel
theorem d_U_didAs_18 : decode b_U_didAs 18 = .ok (.laload, 1) := by decide +kernel
theorem d_U_didAs_19 : decode b_U_didAs 19 = .ok (.lcmp, 1) := by decide +kernel
theorem d_U_didAs_20 : decode b_U_didAs 20 = .ok (.ifCond .eq 5, 3) := by decide +kernel
theorem d_U_didAs_23 : decode b_U_didAs 23 = .ok (.iconst 0, 1) := by decide +kernel
theorem d_U_didAs_24 : decode b_U_didAs 24 = .ok (.ireturn, 1) := by decide +kernel
theorem d_U_didAs_25 : decode b_U_didAs 25 = .ok (.iinc 2 1, 3) := by decide +kernel
theorem d_U_didAs_28 : decode b_U_didAs 28 = .ok (.goto (-26), 3) := by decide +kernel
theorem d_U_didAs_31 : decode b_U_didAs 31 = .ok (.aload_n 0, 1) := by decide +kernel
theorem d_U_didAs_32 : decode b_U_didAs 32 = .ok (.getfield 31, 3) := by decide +kernel
theorem d_U_didAs_35 : decode b_U_didAs 35 = .ok (.aload_n 1, 1) := by decide +kernel
theorem d_U_didAs_36 : decode b_U_didAs 36 = .ok (.getfield 31, 3) := by decide +kernel
theorem d_U_didAs_39 : decode b_U_didAs 39 = .ok (.if_icmp .ne 18, 3) := by decide +kernel
theorem d_U_didAs_42 : decode b_U_didAs 42 = .ok (.aload_n 0, 1) := by decide +kernel
theorem d_U_didAs_43 : decode b_U_didAs 43 = .ok (.getfield 18, 3) := by decide +kernel
theorem d_U_didAs_46 : decode b_U_didAs 46 = .ok (.aload_n 1, 1) := by decide +kernel
theorem d_U_didAs_47 : decode b_U_didAs 47 = .ok (.getfield 18, 3) := by decide +kernel
theorem d_U_didAs_50 : decode b_U_didAs 50 = .ok (.if_icmp .ne 7, 3) := by decide +kernel
theorem d_U_didAs_53 : decode b_U_didAs 53 = .ok (.iconst 1, 1) := by decide +kernel
theorem d_U_didAs_54 : decode b_U_didAs 54 = .ok (.goto 4, 3) := by decide +kernel
theorem d_U_didAs_57 : decode b_U_didAs 57 = .ok (.iconst 0, 1) := by decide +kernel
theorem d_U_didAs_58 : decode b_U_didAs 58 = .ok (.ireturn, 1) := by decide +kernel
