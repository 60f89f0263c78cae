theorem d_MO_init_0 : decode b_MO_init 0 = .ok (.aload_n 0, 1) := by decide +kernel
theorem d_MO_init_1 : decode b_MO_init 1 = .ok (.invokespecial 1, 3) := by decide +kernel
theorem d_MO_init_4 : decode b_MO_init 4 = .ok (.aload_n 0, 1) := by decide +kernel
theorem d_MO_init_5 : decode b_MO_init 5 = .ok (.iconst 4, 1) := by decide +kernel
theorem d_MO_init_6 : decode b_MO_init 6 = .ok (.newarray .int, 2) := by decide +kernel
theorem d_MO_init_8 : decode b_MO_init 8 = .ok (.putfield 7, 3) := by decide +kernel
theorem d_MO_init_11 : decode b_MO_init 11 = .ok (.aload_n 0, 1) := by decide +kernel
theorem d_MO_init_12 : decode b_MO_init 12 = .ok (.bipush 20, 2) := by decide +kernel
theorem d_MO_init_14 : decode b_MO_init 14 = .ok (.newarray .int, 2) := by decide +kernel
theorem d_MO_init_16 : decode b_MO_init 16 = .ok (.putfield 13, 3) := by decide +kernel
theorem d_MO_init_19 : decode b_MO_init 19 = .ok (.aload_n 0, 1) := by decide +kernel
theorem d_MO_init_20 : decode b_MO_init 20 = .ok (.bipush 20, 2) := by decide +kernel
theorem d_MO_init_22 : decode b_MO_init 22 = .ok (.newarray .int, 2) := by decide +kernel
theorem d_MO_init_24 : decode b_MO_init 24 = .ok (.putfield 16, 3) := by decide +kernel
theorem d_MO_init_27 : decode b_MO_init 27 = .ok (.aload_n 0, 1) := by decide +kernel
theorem d_MO_init_28 : decode b_MO_init 28 = .ok (.bipush 20, 2) := by decide +kernel
theorem d_MO_init_30 : decode b_MO_init 30 = .ok (.newarray .int, 2) := by decide +kernel
theorem d_MO_init_32 : decode b_MO_init 32 = .ok (.putfield 19, 3) := by decide +kernel
theorem d_MO_init_35 : decode b_MO_init 35 = .ok (.aload_n 0, 1) := by decide +kernel
theorem d_MO_init_36 : decode b_MO_init 36 = .ok (.iconst 4, 1) := by decide +kernel
theorem d_MO_init_37 : decode b_MO_init 37 = .ok (.newarray .int, 2) := by decide +kernel
theorem d_MO_init_39 : decode b_MO_init 39 = .ok (.putfield 22, 3) := by decide +kernel
theorem d_MO_init_42 : decode b_MO_init 42 = .ok (.aload_n 0, 1) := by decide +kernel
theorem d_MO_init_43 : decode b_MO_init 43 = .ok (.bipush 16, 2) := by decide +kernel
theorem d_MO_init_45 : decode b_MO_init 45 = .ok (.newarray .int, 2) := by decide +kernel
theorem d_MO_init_47 : decode b_MO_init 47 = .ok (.putfield 25, 3) := by decide +kernel
theorem d_MO_init_50 : decode b_MO_init 50 = .ok (.aload_n 0, 1) := by decide +kernel
theorem d_MO_init_51 : decode b_MO_init 51 = .ok (.iconst 4, 1) := by decide +kernel
theorem d_MO_init_52 : decode b_MO_init 52 = .ok (.newarray .int, 2) := by decide +kernel
theorem d_MO_init_54 : decode b_MO_init 54 = .ok (.putfield 28, 3) := by decide +kernel
theorem d_MO_init_57 : decode b_MO_init 57 = .ok (.aload_n 0, 1) := by decide +kernel
theorem d_MO_init_58 : decode b_MO_init 58 = .ok (.iconst 4, 1) := by decide +kernel
theorem d_MO_init_59 : decode b_MO_init 59 = .ok (.newarray .int, 2) := by decide +kernel
theorem d_MO_init_61 : decode b_MO_init 61 = .ok (.putfield 31, 3) := by decide +kernel
theorem d_MO_init_64 : decode b_MO_init 64 = .ok (.aload_n 0, 1) := by decide +kernel
theorem d_MO_init_65 : decode b_MO_init 65 = .ok (.bipush 12, 2) := by decide +kernel
theorem d_MO_init_67 : decode b_MO_init 67 = .ok (.newarray .int, 2) := by decide +kernel
theorem d_MO_init_69 : decode b_MO_init 69 = .ok (.putfield 34, 3) := by decide +kernel
theorem d_MO_init_72 : decode b_MO_init 72 = .ok (.aload_n 0, 1) := by decide +kernel
theorem d_MO_init_73 : decode b_MO_init 73 = .ok (.bipush 12, 2) := by decide +kernel
theorem d_MO_init_75 : decode b_MO_init 75 = .ok (.newarray .int, 2) := by decide +kernel
theorem d_MO_init_77 : decode b_MO_init 77 = .ok (.putfield 37, 3) := by decide +kernel
theorem d_MO_init_80 : decode b_MO_init 80 = .ok (.aload_n 0, 1) := by decide +kernel
theorem d_MO_init_81 : decode b_MO_init 81 = .ok (.iconst 4, 1) := by decide +kernel
theorem d_MO_init_82 : decode b_MO_init 82 = .ok (.newarray .boolean, 2) := by decide +kernel
theorem d_MO_init_84 : decode b_MO_init 84 = .ok (.putfield 40, 3) := by decide +kernel
theorem d_MO_init_87 : decode b_MO_init 87 = .ok (.aload_n 0, 1) := by decide +kernel
theorem d_MO_init_88 : decode b_MO_init 88 = .ok (.iconst 4, 1) := by decide +kernel
theorem d_MO_init_89 : decode b_MO_init 89 = .ok (.newarray .boolean, 2) := by decide +kernel
theorem d_MO_init_91 : decode b_MO_init 91 = .ok (.putfield 44, 3) := by decide +kernel
theorem d_MO_init_94 : decode b_MO_init 94 = .ok (.aload_n 0, 1) := by decide +kernel
theorem d_MO_init_95 : decode b_MO_init 95 = .ok (.iconst 4, 1) := by decide +kernel
theorem d_MO_init_96 : decode b_MO_init 96 = .ok (.newarray .int, 2) := by decide +kernel
theorem d_MO_init_98 : decode b_MO_init 98 = .ok (.putfield 47, 3) := by decide +kernel
theorem d_MO_init_101 : decode b_MO_init 101 = .ok (.aload_n 0, 1) := by decide +kernel
theorem d_MO_init_102 : decode b_MO_init 102 = .ok (.iconst 4, 1) := by decide +kernel
theorem d_MO_init_103 : decode b_MO_init 103 = .ok (.newarray .int, 2) := by decide +kernel
theorem d_MO_init_105 : decode b_MO_init 105 = .ok (.putfield 50, 3) := by decide +kernel
theorem d_MO_init_108 : decode b_MO_init 108 = .ok (.aload_n 0, 1) := by decide +kernel
theorem d_MO_init_109 : decode b_MO_init 109 = .ok (.iconst 4, 1) := by decide +kernel
theorem d_MO_init_110 : decode b_MO_init 110 = .ok (.newarray .int, 2) := by decide +kernel
theorem d_MO_init_112 : decode b_MO_init 112 = .ok (.putfield 53, 3) := by decide +kernel
theorem d_MO_init_115 : decode b_MO_init 115 = .ok (.aload_n 0, 1) := by decide +kernel
theorem d_MO_init_116 : decode b_MO_init 116 = .ok (.ldc 56, 2) := by decide +kernel
theorem d_MO_init_118 : decode b_MO_init 118 = .ok (.newarray .long, 2) := by decide +kernel
theorem d_MO_init_120 : decode b_MO_init 120 = .ok (.putfield 57, 3) := by decide +kernel
theorem d_MO_init_123 : decode b_MO_init 123 = .ok (.aload_n 0, 1) := by decide +kernel
theorem d_MO_init_124 : decode b_MO_init 124 = .ok (.ldc 56, 2) := by decide +kernel
theorem d_MO_init_126 : decode b_MO_init 126 = .ok (.newarray .long, 2) := by decide +kernel
theorem d_MO_init_128 : decode b_MO_init 128 = .ok (.putfield 61, 3) := by decide +kernel
theorem d_MO_init_131 : decode b_MO_init 131 = .ok (.aload_n 0, 1) := by decide +kernel
theorem d_MO_init_132 : decode b_MO_init 132 = .ok (.ldc 56, 2) := by decide +kernel
theorem d_MO_init_134 : decode b_MO_init 134 = .ok (.newarray .int, 2) := by decide +kernel
theorem d_MO_init_136 : decode b_MO_init 136 = .ok (.putfield 64, 3) := by decide +kernel
theorem d_MO_init_139 : decode b_MO_init 139 = .ok (.aload_n 0, 1) := by decide +kernel
theorem d_MO_init_140 : decode b_MO_init 140 = .ok (.ldc 56, 2) := by decide +kernel
theorem d_MO_init_142 : decode b_MO_init 142 = .ok (.newarray .int, 2) := by decide +kernel
theorem d_MO_init_144 : decode b_MO_init 144 = .ok (.putfield 67, 3) := by decide +kernel
theorem d_MO_init_147 : decode b_MO_init 147 = .ok (.aload_n 0, 1) := by decide +kernel
theorem d_MO_init_148 : decode b_MO_init 148 = .ok (.ldc 56, 2) := by decide +kernel
theorem d_MO_init_150 : decode b_MO_init 150 = .ok (.newarray .int, 2) := by decide +kernel
theorem d_MO_init_152 : decode b_MO_init 152 = .ok (.putfield 70, 3) := by decide +kernel
theorem d_MO_init_155 : decode b_MO_init 155 = .ok (.aload_n 0, 1) := by decide +kernel
theorem d_MO_init_156 : decode b_MO_init 156 = .ok (.ldc 56, 2) := by decide +kernel
theorem d_MO_init_158 : decode b_MO_init 158 = .ok (.newarray .int, 2) := by decide +kernel
theorem d_MO_init_160 : decode b_MO_init 160 = .ok (.putfield 73, 3) := by decide +kernel
theorem d_MO_init_163 : decode b_MO_init 163 = .ok (.aload_n 0, 1) := by decide +kernel
theorem d_MO_init_164 : decode b_MO_init 164 = .ok (.ldc 56, 2) := by decide +kernel
theorem d_MO_init_166 : decode b_MO_init 166 = .ok (.newarray .long, 2) := by decide +kernel
theorem d_MO_init_168 : decode b_MO_init 168 = .ok (.putfield 76, 3) := by decide +kernel
theorem d_MO_init_171 : decode b_MO_init 171 = .ok (.aload_n 0, 1) := by decide +kernel
theorem d_MO_init_172 : decode b_MO_init 172 = .ok (.sipush 1024, 3) := by decide +kernel
theorem d_MO_init_175 : decode b_MO_init 175 = .ok (.newarray .boolean, 2) := by decide +kernel
theorem d_MO_init_177 : decode b_MO_init 177 = .ok (.putfield 79, 3) := by decide +kernel
theorem d_MO_init_180 : decode b_MO_init 180 = .ok (.aload_n 0, 1) := by decide +kernel
theorem d_MO_init_181 : decode b_MO_init 181 = .ok (.bipush 64, 2) := by decide +kernel
theorem d_MO_init_183 : decode b_MO_init 183 = .ok (.newarray .int, 2) := by decide +kernel
theorem d_MO_init_185 : decode b_MO_init 185 = .ok (.putfield 82, 3) := by decide +kernel
theorem d_MO_init_188 : decode b_MO_init 188 = .ok (.aload_n 0, 1) := by decide +kernel
theorem d_MO_init_189 : decode b_MO_init 189 = .ok (.sipush 4099, 3) := by decide +kernel
theorem d_MO_init_192 : decode b_MO_init 192 = .ok (.newarray .int, 2) := by decide +kernel
theorem d_MO_init_194 : decode b_MO_init 194 = .ok (.putfield 85, 3) := by decide +kernel
theorem d_MO_init_197 : decode b_MO_init 197 = .ok (.aload_n 0, 1) := by decide +kernel
theorem d_MO_init_198 : decode b_MO_init 198 = .ok (.sipush 12001, 3) := by decide +kernel
theorem d_MO_init_201 : decode b_MO_init 201 = .ok (.newarray .int, 2) := by decide +kernel
theorem d_MO_init_203 : decode b_MO_init 203 = .ok (.putfield 88, 3) := by decide +kernel
theorem d_MO_init_206 : decode b_MO_init 206 = .ok (.aload_n 0, 1) := by decide +kernel
theorem d_MO_init_207 : decode b_MO_init 207 = .ok (.sipush 200, 3) := by decide +kernel
theorem d_MO_init_210 : decode b_MO_init 210 = .ok (.newarray .int, 2) := by decide +kernel
theorem d_MO_init_212 : decode b_MO_init 212 = .ok (.putfield 91, 3) := by decide +kernel
theorem d_MO_init_215 : decode b_MO_init 215 = .ok (.return_, 1) := by decide +kernel
theorem d_MO_thrown_0 : decode b_MO_thrown 0 = .ok (.aload_n 0, 1) := by decide +kernel
theorem d_MO_thrown_1 : decode b_MO_thrown 1 = .ok (.getfield 94, 3) := by decide +kernel
theorem d_MO_thrown_4 : decode b_MO_thrown 4 = .ok (.ireturn, 1) := by decide +kernel
theorem d_MO_fail_0 : decode b_MO_fail 0 = .ok (.aload_n 0, 1) := by decide +kernel
theorem d_MO_fail_1 : decode b_MO_fail 1 = .ok (.iload_n 1, 1) := by decide +kernel
theorem d_MO_fail_2 : decode b_MO_fail 2 = .ok (.putfield 94, 3) := by decide +kernel
theorem d_MO_fail_5 : decode b_MO_fail 5 = .ok (.iconst 0, 1) := by decide +kernel
theorem d_MO_fail_6 : decode b_MO_fail 6 = .ok (.ireturn, 1) := by decide +kernel
theorem d_MO_within_0 : decode b_MO_within 0 = .ok (.iload_n 0, 1) := by decide +kernel
theorem d_MO_within_1 : decode b_MO_within 1 = .ok (.iload_n 1, 1) := by decide +kernel
theorem d_MO_within_2 : decode b_MO_within 2 = .ok (.if_icmp .lt 12, 3) := by decide +kernel
theorem d_MO_within_5 : decode b_MO_within 5 = .ok (.iload_n 0, 1) := by decide +kernel
theorem d_MO_within_6 : decode b_MO_within 6 = .ok (.iload_n 2, 1) := by decide +kernel
theorem d_MO_within_7 : decode b_MO_within 7 = .ok (.if_icmp .gt 7, 3) := by decide +kernel
theorem d_MO_within_10 : decode b_MO_within 10 = .ok (.iconst 1, 1) := by decide +kernel
theorem d_MO_within_11 : decode b_MO_within 11 = .ok (.goto 4, 3) := by decide +kernel
theorem d_MO_within_14 : decode b_MO_within 14 = .ok (.iconst 0, 1) := by decide +kernel
theorem d_MO_within_15 : decode b_MO_within 15 = .ok (.ireturn, 1) := by decide +kernel
theorem d_MO_forget_0 : decode b_MO_forget 0 = .ok (.iconst 0, 1) := by decide +kernel
theorem d_MO_forget_1 : decode b_MO_forget 1 = .ok (.istore_n 1, 1) := by decide +kernel
theorem d_MO_forget_2 : decode b_MO_forget 2 = .ok (.iload_n 1, 1) := by decide +kernel
theorem d_MO_forget_3 : decode b_MO_forget 3 = .ok (.iconst 4, 1) := by decide +kernel
theorem d_MO_forget_4 : decode b_MO_forget 4 = .ok (.if_icmp .ge 16, 3) := by decide +kernel
theorem d_MO_forget_7 : decode b_MO_forget 7 = .ok (.aload_n 0, 1) := by decide +kernel
theorem d_MO_forget_8 : decode b_MO_forget 8 = .ok (.getfield 40, 3) := by decide +kernel
theorem d_MO_forget_11 : decode b_MO_forget 11 = .ok (.iload_n 1, 1) := by decide +kernel
theorem d_MO_forget_12 : decode b_MO_forget 12 = .ok (.iconst 0, 1) := by decide +kernel
theorem d_MO_forget_13 : decode b_MO_forget 13 = .ok (.bastore, 1) := by decide +kernel
theorem d_MO_forget_14 : decode b_MO_forget 14 = .ok (.iinc 1 1, 3) := by decide +kernel
theorem d_MO_forget_17 : decode b_MO_forget 17 = .ok (.goto (-15), 3) := by decide +kernel
theorem d_MO_forget_20 : decode b_MO_forget 20 = .ok (.return_, 1) := by decide +kernel
theorem d_MO_action_0 : decode b_MO_action 0 = .ok (.aload_n 0, 1) := by decide +kernel
theorem d_MO_action_1 : decode b_MO_action 1 = .ok (.iconst 0, 1) := by decide +kernel
theorem d_MO_action_2 : decode b_MO_action 2 = .ok (.putfield 94, 3) := by decide +kernel
theorem d_MO_action_5 : decode b_MO_action 5 = .ok (.iload_n 1, 1) := by decide +kernel
theorem d_MO_action_6 : decode b_MO_action 6 = .ok (.iconst 0, 1) := by decide +kernel
theorem d_MO_action_7 : decode b_MO_action 7 = .ok (.iconst 3, 1) := by decide +kernel
theorem d_MO_action_8 : decode b_MO_action 8 = .ok (.invokestatic 98, 3) := by decide +kernel
theorem d_MO_action_11 : decode b_MO_action 11 = .ok (.ifCond .eq 43, 3) := by decide +kernel
theorem d_MO_action_14 : decode b_MO_action 14 = .ok (.iload_n 2, 1) := by decide +kernel
theorem d_MO_action_15 : decode b_MO_action 15 = .ok (.iconst 0, 1) := by decide +kernel
theorem d_MO_action_16 : decode b_MO_action 16 = .ok (.iconst 3, 1) := by decide +kernel
theorem d_MO_action_17 : decode b_MO_action 17 = .ok (.invokestatic 98, 3) := by decide +kernel
theorem d_MO_action_20 : decode b_MO_action 20 = .ok (.ifCond .eq 34, 3) := by decide +kernel
theorem d_MO_action_23 : decode b_MO_action 23 = .ok (.iload_n 3, 1) := by decide +kernel
theorem d_MO_action_24 : decode b_MO_action 24 = .ok (.iconst 0, 1) := by decide +kernel
theorem d_MO_action_25 : decode b_MO_action 25 = .ok (.iconst 3, 1) := by decide +kernel
theorem d_MO_action_26 : decode b_MO_action 26 = .ok (.invokestatic 98, 3) := by decide +kernel
theorem d_MO_action_29 : decode b_MO_action 29 = .ok (.ifCond .eq 25, 3) := by decide +kernel
theorem d_MO_action_32 : decode b_MO_action 32 = .ok (.iload 4, 2) := by decide +kernel
theorem d_MO_action_34 : decode b_MO_action 34 = .ok (.iconst 0, 1) := by decide +kernel
theorem d_MO_action_35 : decode b_MO_action 35 = .ok (.iconst 3, 1) := by decide +kernel
theorem d_MO_action_36 : decode b_MO_action 36 = .ok (.invokestatic 98, 3) := by decide +kernel
theorem d_MO_action_39 : decode b_MO_action 39 = .ok (.ifCond .eq 15, 3) := by decide +kernel
theorem d_MO_action_42 : decode b_MO_action 42 = .ok (.iload_n 2, 1) := by decide +kernel
theorem d_MO_action_43 : decode b_MO_action 43 = .ok (.iconst 2, 1) := by decide +kernel
theorem d_MO_action_44 : decode b_MO_action 44 = .ok (.if_icmp .ne 16, 3) := by decide +kernel
theorem d_MO_action_47 : decode b_MO_action 47 = .ok (.iload_n 3, 1) := by decide +kernel
theorem d_MO_action_48 : decode b_MO_action 48 = .ok (.iload 4, 2) := by decide +kernel
theorem d_MO_action_50 : decode b_MO_action 50 = .ok (.iadd, 1) := by decide +kernel
theorem d_MO_action_51 : decode b_MO_action 51 = .ok (.ifCond .le 9, 3) := by decide +kernel
theorem d_MO_action_54 : decode b_MO_action 54 = .ok (.aload_n 0, 1) := by decide +kernel
theorem d_MO_action_55 : decode b_MO_action 55 = .ok (.iconst 1, 1) := by decide +kernel
theorem d_MO_action_56 : decode b_MO_action 56 = .ok (.invokevirtual 102, 3) := by decide +kernel
theorem d_MO_action_59 : decode b_MO_action 59 = .ok (.ireturn, 1) := by decide +kernel
theorem d_MO_action_60 : decode b_MO_action 60 = .ok (.aload_n 0, 1) := by decide +kernel
theorem d_MO_action_61 : decode b_MO_action 61 = .ok (.getfield 7, 3) := by decide +kernel
theorem d_MO_action_64 : decode b_MO_action 64 = .ok (.iload_n 1, 1) := by decide +kernel
theorem d_MO_action_65 : decode b_MO_action 65 = .ok (.iaload, 1) := by decide +kernel
theorem d_MO_action_66 : decode b_MO_action 66 = .ok (.iconst 5, 1) := by decide +kernel
theorem d_MO_action_67 : decode b_MO_action 67 = .ok (.if_icmp .ne 9, 3) := by decide +kernel
theorem d_MO_action_70 : decode b_MO_action 70 = .ok (.aload_n 0, 1) := by decide +kernel
theorem d_MO_action_71 : decode b_MO_action 71 = .ok (.iconst 2, 1) := by decide +kernel
theorem d_MO_action_72 : decode b_MO_action 72 = .ok (.invokevirtual 102, 3) := by decide +kernel
theorem d_MO_action_75 : decode b_MO_action 75 = .ok (.ireturn, 1) := by decide +kernel
theorem d_MO_action_76 : decode b_MO_action 76 = .ok (.aload_n 0, 1) := by decide +kernel
theorem d_MO_action_77 : decode b_MO_action 77 = .ok (.getfield 13, 3) := by decide +kernel
theorem d_MO_action_80 : decode b_MO_action 80 = .ok (.iconst 5, 1) := by decide +kernel
theorem d_MO_action_81 : decode b_MO_action 81 = .ok (.iload_n 1, 1) := by decide +kernel
theorem d_MO_action_82 : decode b_MO_action 82 = .ok (.imul, 1) := by decide +kernel
theorem d_MO_action_83 : decode b_MO_action 83 = .ok (.aload_n 0, 1) := by decide +kernel
theorem d_MO_action_84 : decode b_MO_action 84 = .ok (.getfield 7, 3) := by decide +kernel
theorem d_MO_action_87 : decode b_MO_action 87 = .ok (.iload_n 1, 1) := by decide +kernel
theorem d_MO_action_88 : decode b_MO_action 88 = .ok (.iaload, 1) := by decide +kernel
theorem d_MO_action_89 : decode b_MO_action 89 = .ok (.iadd, 1) := by decide +kernel
theorem d_MO_action_90 : decode b_MO_action 90 = .ok (.iload_n 2, 1) := by decide +kernel
theorem d_MO_action_91 : decode b_MO_action 91 = .ok (.iastore, 1) := by decide +kernel
theorem d_MO_action_92 : decode b_MO_action 92 = .ok (.aload_n 0, 1) := by decide +kernel
theorem d_MO_action_93 : decode b_MO_action 93 = .ok (.getfield 16, 3) := by decide +kernel
theorem d_MO_action_96 : decode b_MO_action 96 = .ok (.iconst 5, 1) := by decide +kernel
theorem d_MO_action_97 : decode b_MO_action 97 = .ok (.iload_n 1, 1) := by decide +kernel
theorem d_MO_action_98 : decode b_MO_action 98 = .ok (.imul, 1) := by decide +kernel
theorem d_MO_action_99 : decode b_MO_action 99 = .ok (.aload_n 0, 1) := by decide +kernel
theorem d_MO_action_100 : decode b_MO_action 100 = .ok (.getfield 7, 3) := by decide +kernel
theorem d_MO_action_103 : decode b_MO_action 103 = .ok (.iload_n 1, 1) := by decide +kernel
theorem d_MO_action_104 : decode b_MO_action 104 = .ok (.iaload, 1) := by decide +kernel
theorem d_MO_action_105 : decode b_MO_action 105 = .ok (.iadd, 1) := by decide +kernel
theorem d_MO_action_106 : decode b_MO_action 106 = .ok (.iload_n 3, 1) := by decide +kernel
theorem d_MO_action_107 : decode b_MO_action 107 = .ok (.iastore, 1) := by decide +kernel
theorem d_MO_action_108 : decode b_MO_action 108 = .ok (.aload_n 0, 1) := by decide +kernel
theorem d_MO_action_109 : decode b_MO_action 109 = .ok (.getfield 19, 3) := by decide +kernel
theorem d_MO_action_112 : decode b_MO_action 112 = .ok (.iconst 5, 1) := by decide +kernel
theorem d_MO_action_113 : decode b_MO_action 113 = .ok (.iload_n 1, 1) := by decide +kernel
theorem d_MO_action_114 : decode b_MO_action 114 = .ok (.imul, 1) := by decide +kernel
theorem d_MO_action_115 : decode b_MO_action 115 = .ok (.aload_n 0, 1) := by decide +kernel
theorem d_MO_action_116 : decode b_MO_action 116 = .ok (.getfield 7, 3) := by decide +kernel
theorem d_MO_action_119 : decode b_MO_action 119 = .ok (.iload_n 1, 1) := by decide +kernel
theorem d_MO_action_120 : decode b_MO_action 120 = .ok (.iaload, 1) := by decide +kernel
theorem d_MO_action_121 : decode b_MO_action 121 = .ok (.iadd, 1) := by decide +kernel
theorem d_MO_action_122 : decode b_MO_action 122 = .ok (.iload 4, 2) := by decide +kernel
theorem d_MO_action_124 : decode b_MO_action 124 = .ok (.iastore, 1) := by decide +kernel
theorem d_MO_action_125 : decode b_MO_action 125 = .ok (.aload_n 0, 1) := by decide +kernel
theorem d_MO_action_126 : decode b_MO_action 126 = .ok (.getfield 7, 3) := by decide +kernel
theorem d_MO_action_129 : decode b_MO_action 129 = .ok (.iload_n 1, 1) := by decide +kernel
theorem d_MO_action_130 : decode b_MO_action 130 = .ok (.dup2, 1) := by decide +kernel
theorem d_MO_action_131 : decode b_MO_action 131 = .ok (.iaload, 1) := by decide +kernel
theorem d_MO_action_132 : decode b_MO_action 132 = .ok (.iconst 1, 1) := by decide +kernel
theorem d_MO_action_133 : decode b_MO_action 133 = .ok (.iadd, 1) := by decide +kernel
theorem d_MO_action_134 : decode b_MO_action 134 = .ok (.iastore, 1) := by decide +kernel
theorem d_MO_action_135 : decode b_MO_action 135 = .ok (.aload_n 0, 1) := by decide +kernel
theorem d_MO_action_136 : decode b_MO_action 136 = .ok (.invokevirtual 106, 3) := by decide +kernel
theorem d_MO_action_139 : decode b_MO_action 139 = .ok (.aload_n 0, 1) := by decide +kernel
theorem d_MO_action_140 : decode b_MO_action 140 = .ok (.getfield 7, 3) := by decide +kernel
theorem d_MO_action_143 : decode b_MO_action 143 = .ok (.iload_n 1, 1) := by decide +kernel
theorem d_MO_action_144 : decode b_MO_action 144 = .ok (.iaload, 1) := by decide +kernel
theorem d_MO_action_145 : decode b_MO_action 145 = .ok (.ireturn, 1) := by decide +kernel
theorem d_MO_clear_0 : decode b_MO_clear 0 = .ok (.aload_n 0, 1) := by decide +kernel
theorem d_MO_clear_1 : decode b_MO_clear 1 = .ok (.iconst 0, 1) := by decide +kernel
theorem d_MO_clear_2 : decode b_MO_clear 2 = .ok (.putfield 94, 3) := by decide +kernel
theorem d_MO_clear_5 : decode b_MO_clear 5 = .ok (.iconst 0, 1) := by decide +kernel
theorem d_MO_clear_6 : decode b_MO_clear 6 = .ok (.istore_n 1, 1) := by decide +kernel
theorem d_MO_clear_7 : decode b_MO_clear 7 = .ok (.iload_n 1, 1) := by decide +kernel
theorem d_MO_clear_8 : decode b_MO_clear 8 = .ok (.iconst 4, 1) := by decide +kernel
theorem d_MO_clear_9 : decode b_MO_clear 9 = .ok (.if_icmp .ge 16, 3) := by decide +kernel
theorem d_MO_clear_12 : decode b_MO_clear 12 = .ok (.aload_n 0, 1) := by decide +kernel
theorem d_MO_clear_13 : decode b_MO_clear 13 = .ok (.getfield 7, 3) := by decide +kernel
theorem d_MO_clear_16 : decode b_MO_clear 16 = .ok (.iload_n 1, 1) := by decide +kernel
theorem d_MO_clear_17 : decode b_MO_clear 17 = .ok (.iconst 0, 1) := by decide +kernel
theorem d_MO_clear_18 : decode b_MO_clear 18 = .ok (.iastore, 1) := by decide +kernel
theorem d_MO_clear_19 : decode b_MO_clear 19 = .ok (.iinc 1 1, 3) := by decide +kernel
theorem d_MO_clear_22 : decode b_MO_clear 22 = .ok (.goto (-15), 3) := by decide +kernel
theorem d_MO_clear_25 : decode b_MO_clear 25 = .ok (.aload_n 0, 1) := by decide +kernel
theorem d_MO_clear_26 : decode b_MO_clear 26 = .ok (.invokevirtual 106, 3) := by decide +kernel
theorem d_MO_clear_29 : decode b_MO_clear 29 = .ok (.return_, 1) := by decide +kernel
theorem d_MO_packFront_0 : decode b_MO_packFront 0 = .ok (.lconst 0, 1) := by decide +kernel
theorem d_MO_packFront_1 : decode b_MO_packFront 1 = .ok (.lstore_n 1, 1) := by decide +kernel
theorem d_MO_packFront_2 : decode b_MO_packFront 2 = .ok (.iconst 0, 1) := by decide +kernel
theorem d_MO_packFront_3 : decode b_MO_packFront 3 = .ok (.istore_n 3, 1) := by decide +kernel
theorem d_MO_packFront_4 : decode b_MO_packFront 4 = .ok (.iload_n 3, 1) := by decide +kernel
theorem d_MO_packFront_5 : decode b_MO_packFront 5 = .ok (.iconst 4, 1) := by decide +kernel
theorem d_MO_packFront_6 : decode b_MO_packFront 6 = .ok (.if_icmp .ge 21, 3) := by decide +kernel
theorem d_MO_packFront_9 : decode b_MO_packFront 9 = .ok (.lload_n 1, 1) := by decide +kernel
theorem d_MO_packFront_10 : decode b_MO_packFront 10 = .ok (.iconst 3, 1) := by decide +kernel
theorem d_MO_packFront_11 : decode b_MO_packFront 11 = .ok (.lshl, 1) := by decide +kernel
theorem d_MO_packFront_12 : decode b_MO_packFront 12 = .ok (.aload_n 0, 1) := by decide +kernel
theorem d_MO_packFront_13 : decode b_MO_packFront 13 = .ok (.getfield 22, 3) := by decide +kernel
theorem d_MO_packFront_16 : decode b_MO_packFront 16 = .ok (.iload_n 3, 1) := by decide +kernel
theorem d_MO_packFront_17 : decode b_MO_packFront 17 = .ok (.iaload, 1) := by decide +kernel
theorem d_MO_packFront_18 : decode b_MO_packFront 18 = .ok (.i2l, 1) := by decide +kernel
theorem d_MO_packFront_19 : decode b_MO_packFront 19 = .ok (.lor, 1) := by decide +kernel
theorem d_MO_packFront_20 : decode b_MO_packFront 20 = .ok (.lstore_n 1, 1) := by decide +kernel
theorem d_MO_packFront_21 : decode b_MO_packFront 21 = .ok (.iinc 3 1, 3) := by decide +kernel
theorem d_MO_packFront_24 : decode b_MO_packFront 24 = .ok (.goto (-20), 3) := by decide +kernel
theorem d_MO_packFront_27 : decode b_MO_packFront 27 = .ok (.iconst 0, 1) := by decide +kernel
theorem d_MO_packFront_28 : decode b_MO_packFront 28 = .ok (.istore_n 3, 1) := by decide +kernel
theorem d_MO_packFront_29 : decode b_MO_packFront 29 = .ok (.iload_n 3, 1) := by decide +kernel
theorem d_MO_packFront_30 : decode b_MO_packFront 30 = .ok (.bipush 16, 2) := by decide +kernel
theorem d_MO_packFront_32 : decode b_MO_packFront 32 = .ok (.if_icmp .ge 21, 3) := by decide +kernel
theorem d_MO_packFront_35 : decode b_MO_packFront 35 = .ok (.lload_n 1, 1) := by decide +kernel
theorem d_MO_packFront_36 : decode b_MO_packFront 36 = .ok (.iconst 2, 1) := by decide +kernel
theorem d_MO_packFront_37 : decode b_MO_packFront 37 = .ok (.lshl, 1) := by decide +kernel
theorem d_MO_packFront_38 : decode b_MO_packFront 38 = .ok (.aload_n 0, 1) := by decide +kernel
theorem d_MO_packFront_39 : decode b_MO_packFront 39 = .ok (.getfield 25, 3) := by decide +kernel
theorem d_MO_packFront_42 : decode b_MO_packFront 42 = .ok (.iload_n 3, 1) := by decide +kernel
theorem d_MO_packFront_43 : decode b_MO_packFront 43 = .ok (.iaload, 1) := by decide +kernel
theorem d_MO_packFront_44 : decode b_MO_packFront 44 = .ok (.i2l, 1) := by decide +kernel
theorem d_MO_packFront_45 : decode b_MO_packFront 45 = .ok (.lor, 1) := by decide +kernel
theorem d_MO_packFront_46 : decode b_MO_packFront 46 = .ok (.lstore_n 1, 1) := by decide +kernel
theorem d_MO_packFront_47 : decode b_MO_packFront 47 = .ok (.iinc 3 1, 3) := by decide +kernel
theorem d_MO_packFront_50 : decode b_MO_packFront 50 = .ok (.goto (-21), 3) := by decide +kernel
theorem d_MO_packFront_53 : decode b_MO_packFront 53 = .ok (.iconst 0, 1) := by decide +kernel
theorem d_MO_packFront_54 : decode b_MO_packFront 54 = .ok (.istore_n 3, 1) := by decide +kernel
theorem d_MO_packFront_55 : decode b_MO_packFront 55 = .ok (.iload_n 3, 1) := by decide +kernel
theorem d_MO_packFront_56 : decode b_MO_packFront 56 = .ok (.iconst 4, 1) := by decide +kernel
theorem d_MO_packFront_57 : decode b_MO_packFront 57 = .ok (.if_icmp .ge 21, 3) := by decide +kernel
theorem d_MO_packFront_60 : decode b_MO_packFront 60 = .ok (.lload_n 1, 1) := by decide +kernel
theorem d_MO_packFront_61 : decode b_MO_packFront 61 = .ok (.iconst 2, 1) := by decide +kernel
theorem d_MO_packFront_62 : decode b_MO_packFront 62 = .ok (.lshl, 1) := by decide +kernel
theorem d_MO_packFront_63 : decode b_MO_packFront 63 = .ok (.aload_n 0, 1) := by decide +kernel
theorem d_MO_packFront_64 : decode b_MO_packFront 64 = .ok (.getfield 28, 3) := by decide +kernel
theorem d_MO_packFront_67 : decode b_MO_packFront 67 = .ok (.iload_n 3, 1) := by decide +kernel
theorem d_MO_packFront_68 : decode b_MO_packFront 68 = .ok (.iaload, 1) := by decide +kernel
theorem d_MO_packFront_69 : decode b_MO_packFront 69 = .ok (.i2l, 1) := by decide +kernel
theorem d_MO_packFront_70 : decode b_MO_packFront 70 = .ok (.lor, 1) := by decide +kernel
theorem d_MO_packFront_71 : decode b_MO_packFront 71 = .ok (.lstore_n 1, 1) := by decide +kernel
theorem d_MO_packFront_72 : decode b_MO_packFront 72 = .ok (.iinc 3 1, 3) := by decide +kernel
theorem d_MO_packFront_75 : decode b_MO_packFront 75 = .ok (.goto (-20), 3) := by decide +kernel
theorem d_MO_packFront_78 : decode b_MO_packFront 78 = .ok (.lload_n 1, 1) := by decide +kernel
theorem d_MO_packFront_79 : decode b_MO_packFront 79 = .ok (.lreturn, 1) := by decide +kernel
theorem d_MO_packBehind_0 : decode b_MO_packBehind 0 = .ok (.lconst 0, 1) := by decide +kernel
theorem d_MO_packBehind_1 : decode b_MO_packBehind 1 = .ok (.lstore_n 1, 1) := by decide +kernel
theorem d_MO_packBehind_2 : decode b_MO_packBehind 2 = .ok (.iconst 0, 1) := by decide +kernel
theorem d_MO_packBehind_3 : decode b_MO_packBehind 3 = .ok (.istore_n 3, 1) := by decide +kernel
theorem d_MO_packBehind_4 : decode b_MO_packBehind 4 = .ok (.iload_n 3, 1) := by decide +kernel
theorem d_MO_packBehind_5 : decode b_MO_packBehind 5 = .ok (.iconst 4, 1) := by decide +kernel
theorem d_MO_packBehind_6 : decode b_MO_packBehind 6 = .ok (.if_icmp .ge 82, 3) := by decide +kernel
theorem d_MO_packBehind_9 : decode b_MO_packBehind 9 = .ok (.lload_n 1, 1) := by decide +kernel
theorem d_MO_packBehind_10 : decode b_MO_packBehind 10 = .ok (.iconst 2, 1) := by decide +kernel
theorem d_MO_packBehind_11 : decode b_MO_packBehind 11 = .ok (.lshl, 1) := by decide +kernel
theorem d_MO_packBehind_12 : decode b_MO_packBehind 12 = .ok (.aload_n 0, 1) := by decide +kernel
theorem d_MO_packBehind_13 : decode b_MO_packBehind 13 = .ok (.getfield 31, 3) := by decide +kernel
theorem d_MO_packBehind_16 : decode b_MO_packBehind 16 = .ok (.iload_n 3, 1) := by decide +kernel
theorem d_MO_packBehind_17 : decode b_MO_packBehind 17 = .ok (.iaload, 1) := by decide +kernel
theorem d_MO_packBehind_18 : decode b_MO_packBehind 18 = .ok (.i2l, 1) := by decide +kernel
theorem d_MO_packBehind_19 : decode b_MO_packBehind 19 = .ok (.lor, 1) := by decide +kernel
theorem d_MO_packBehind_20 : decode b_MO_packBehind 20 = .ok (.lstore_n 1, 1) := by decide +kernel
theorem d_MO_packBehind_21 : decode b_MO_packBehind 21 = .ok (.iconst 0, 1) := by decide +kernel
theorem d_MO_packBehind_22 : decode b_MO_packBehind 22 = .ok (.istore 4, 2) := by decide +kernel
theorem d_MO_packBehind_24 : decode b_MO_packBehind 24 = .ok (.iload 4, 2) := by decide +kernel
theorem d_MO_packBehind_26 : decode b_MO_packBehind 26 = .ok (.iconst 3, 1) := by decide +kernel
theorem d_MO_packBehind_27 : decode b_MO_packBehind 27 = .ok (.if_icmp .ge 55, 3) := by decide +kernel
theorem d_MO_packBehind_30 : decode b_MO_packBehind 30 = .ok (.lload_n 1, 1) := by decide +kernel
theorem d_MO_packBehind_31 : decode b_MO_packBehind 31 = .ok (.iconst 4, 1) := by decide +kernel
theorem d_MO_packBehind_32 : decode b_MO_packBehind 32 = .ok (.lshl, 1) := by decide +kernel
theorem d_MO_packBehind_33 : decode b_MO_packBehind 33 = .ok (.iload 4, 2) := by decide +kernel
theorem d_MO_packBehind_35 : decode b_MO_packBehind 35 = .ok (.aload_n 0, 1) := by decide +kernel
theorem d_MO_packBehind_36 : decode b_MO_packBehind 36 = .ok (.getfield 31, 3) := by decide +kernel
theorem d_MO_packBehind_39 : decode b_MO_packBehind 39 = .ok (.iload_n 3, 1) := by decide +kernel
theorem d_MO_packBehind_40 : decode b_MO_packBehind 40 = .ok (.iaload, 1) := by decide +kernel
theorem d_MO_packBehind_41 : decode b_MO_packBehind 41 = .ok (.if_icmp .ge 31, 3) := by decide +kernel
theorem d_MO_packBehind_44 : decode b_MO_packBehind 44 = .ok (.iconst 4, 1) := by decide +kernel
theorem d_MO_packBehind_45 : decode b_MO_packBehind 45 = .ok (.aload_n 0, 1) := by decide +kernel
theorem d_MO_packBehind_46 : decode b_MO_packBehind 46 = .ok (.getfield 34, 3) := by decide +kernel
theorem d_MO_packBehind_49 : decode b_MO_packBehind 49 = .ok (.iconst 3, 1) := by decide +kernel
theorem d_MO_packBehind_50 : decode b_MO_packBehind 50 = .ok (.iload_n 3, 1) := by decide +kernel
theorem d_MO_packBehind_51 : decode b_MO_packBehind 51 = .ok (.imul, 1) := by decide +kernel
theorem d_MO_packBehind_52 : decode b_MO_packBehind 52 = .ok (.iload 4, 2) := by decide +kernel
theorem d_MO_packBehind_54 : decode b_MO_packBehind 54 = .ok (.iadd, 1) := by decide +kernel
theorem d_MO_packBehind_55 : decode b_MO_packBehind 55 = .ok (.iaload, 1) := by decide +kernel
theorem d_MO_packBehind_56 : decode b_MO_packBehind 56 = .ok (.imul, 1) := by decide +kernel
theorem d_MO_packBehind_57 : decode b_MO_packBehind 57 = .ok (.aload_n 0, 1) := by decide +kernel
theorem d_MO_packBehind_58 : decode b_MO_packBehind 58 = .ok (.getfield 37, 3) := by decide +kernel
theorem d_MO_packBehind_61 : decode b_MO_packBehind 61 = .ok (.iconst 3, 1) := by decide +kernel
theorem d_MO_packBehind_62 : decode b_MO_packBehind 62 = .ok (.iload_n 3, 1) := by decide +kernel
theorem d_MO_packBehind_63 : decode b_MO_packBehind 63 = .ok (.imul, 1) := by decide +kernel
theorem d_MO_packBehind_64 : decode b_MO_packBehind 64 = .ok (.iload 4, 2) := by decide +kernel
theorem d_MO_packBehind_66 : decode b_MO_packBehind 66 = .ok (.iadd, 1) := by decide +kernel
theorem d_MO_packBehind_67 : decode b_MO_packBehind 67 = .ok (.iaload, 1) := by decide +kernel
theorem d_MO_packBehind_68 : decode b_MO_packBehind 68 = .ok (.iadd, 1) := by decide +kernel
theorem d_MO_packBehind_69 : decode b_MO_packBehind 69 = .ok (.goto 4, 3) := by decide +kernel
theorem d_MO_packBehind_72 : decode b_MO_packBehind 72 = .ok (.iconst 0, 1) := by decide +kernel
theorem d_MO_packBehind_73 : decode b_MO_packBehind 73 = .ok (.i2l, 1) := by decide +kernel
theorem d_MO_packBehind_74 : decode b_MO_packBehind 74 = .ok (.lor, 1) := by decide +kernel
theorem d_MO_packBehind_75 : decode b_MO_packBehind 75 = .ok (.lstore_n 1, 1) := by decide +kernel
theorem d_MO_packBehind_76 : decode b_MO_packBehind 76 = .ok (.iinc 4 1, 3) := by decide +kernel
theorem d_MO_packBehind_79 : decode b_MO_packBehind 79 = .ok (.goto (-55), 3) := by decide +kernel
theorem d_MO_packBehind_82 : decode b_MO_packBehind 82 = .ok (.iinc 3 1, 3) := by decide +kernel
theorem d_MO_packBehind_85 : decode b_MO_packBehind 85 = .ok (.goto (-81), 3) := by decide +kernel
theorem d_MO_packBehind_88 : decode b_MO_packBehind 88 = .ok (.lload_n 1, 1) := by decide +kernel
theorem d_MO_packBehind_89 : decode b_MO_packBehind 89 = .ok (.lreturn, 1) := by decide +kernel
theorem d_MO_unpack_0 : decode b_MO_unpack 0 = .ok (.iconst 0, 1) := by decide +kernel
theorem d_MO_unpack_1 : decode b_MO_unpack 1 = .ok (.istore 5, 2) := by decide +kernel
theorem d_MO_unpack_3 : decode b_MO_unpack 3 = .ok (.iload 5, 2) := by decide +kernel
theorem d_MO_unpack_5 : decode b_MO_unpack 5 = .ok (.iconst 4, 1) := by decide +kernel
theorem d_MO_unpack_6 : decode b_MO_unpack 6 = .ok (.if_icmp .ge 29, 3) := by decide +kernel
theorem d_MO_unpack_9 : decode b_MO_unpack 9 = .ok (.aload_n 0, 1) := by decide +kernel
theorem d_MO_unpack_10 : decode b_MO_unpack 10 = .ok (.getfield 22, 3) := by decide +kernel
theorem d_MO_unpack_13 : decode b_MO_unpack 13 = .ok (.iload 5, 2) := by decide +kernel
theorem d_MO_unpack_15 : decode b_MO_unpack 15 = .ok (.lload_n 1, 1) := by decide +kernel
theorem d_MO_unpack_16 : decode b_MO_unpack 16 = .ok (.bipush 49, 2) := by decide +kernel
theorem d_MO_unpack_18 : decode b_MO_unpack 18 = .ok (.iconst 3, 1) := by decide +kernel
theorem d_MO_unpack_19 : decode b_MO_unpack 19 = .ok (.iload 5, 2) := by decide +kernel
theorem d_MO_unpack_21 : decode b_MO_unpack 21 = .ok (.imul, 1) := by decide +kernel
theorem d_MO_unpack_22 : decode b_MO_unpack 22 = .ok (.isub, 1) := by decide +kernel
theorem d_MO_unpack_23 : decode b_MO_unpack 23 = .ok (.lshr, 1) := by decide +kernel
theorem d_MO_unpack_24 : decode b_MO_unpack 24 = .ok (.l2i, 1) := by decide +kernel
theorem d_MO_unpack_25 : decode b_MO_unpack 25 = .ok (.bipush 7, 2) := by decide +kernel
theorem d_MO_unpack_27 : decode b_MO_unpack 27 = .ok (.iand, 1) := by decide +kernel
theorem d_MO_unpack_28 : decode b_MO_unpack 28 = .ok (.iastore, 1) := by decide +kernel
theorem d_MO_unpack_29 : decode b_MO_unpack 29 = .ok (.iinc 5 1, 3) := by decide +kernel
theorem d_MO_unpack_32 : decode b_MO_unpack 32 = .ok (.goto (-29), 3) := by decide +kernel
theorem d_MO_unpack_35 : decode b_MO_unpack 35 = .ok (.iconst 0, 1) := by decide +kernel
theorem d_MO_unpack_36 : decode b_MO_unpack 36 = .ok (.istore 5, 2) := by decide +kernel
theorem d_MO_unpack_38 : decode b_MO_unpack 38 = .ok (.iload 5, 2) := by decide +kernel
theorem d_MO_unpack_40 : decode b_MO_unpack 40 = .ok (.bipush 16, 2) := by decide +kernel
theorem d_MO_unpack_42 : decode b_MO_unpack 42 = .ok (.if_icmp .ge 28, 3) := by decide +kernel
theorem d_MO_unpack_45 : decode b_MO_unpack 45 = .ok (.aload_n 0, 1) := by decide +kernel
theorem d_MO_unpack_46 : decode b_MO_unpack 46 = .ok (.getfield 25, 3) := by decide +kernel
theorem d_MO_unpack_49 : decode b_MO_unpack 49 = .ok (.iload 5, 2) := by decide +kernel
theorem d_MO_unpack_51 : decode b_MO_unpack 51 = .ok (.lload_n 1, 1) := by decide +kernel
theorem d_MO_unpack_52 : decode b_MO_unpack 52 = .ok (.bipush 38, 2) := by decide +kernel
theorem d_MO_unpack_54 : decode b_MO_unpack 54 = .ok (.iconst 2, 1) := by decide +kernel
theorem d_MO_unpack_55 : decode b_MO_unpack 55 = .ok (.iload 5, 2) := by decide +kernel
theorem d_MO_unpack_57 : decode b_MO_unpack 57 = .ok (.imul, 1) := by decide +kernel
theorem d_MO_unpack_58 : decode b_MO_unpack 58 = .ok (.isub, 1) := by decide +kernel
theorem d_MO_unpack_59 : decode b_MO_unpack 59 = .ok (.lshr, 1) := by decide +kernel
theorem d_MO_unpack_60 : decode b_MO_unpack 60 = .ok (.l2i, 1) := by decide +kernel
theorem d_MO_unpack_61 : decode b_MO_unpack 61 = .ok (.iconst 3, 1) := by decide +kernel
theorem d_MO_unpack_62 : decode b_MO_unpack 62 = .ok (.iand, 1) := by decide +kernel
theorem d_MO_unpack_63 : decode b_MO_unpack 63 = .ok (.iastore, 1) := by decide +kernel
theorem d_MO_unpack_64 : decode b_MO_unpack 64 = .ok (.iinc 5 1, 3) := by decide +kernel
theorem d_MO_unpack_67 : decode b_MO_unpack 67 = .ok (.goto (-29), 3) := by decide +kernel
theorem d_MO_unpack_70 : decode b_MO_unpack 70 = .ok (.iconst 0, 1) := by decide +kernel
theorem d_MO_unpack_71 : decode b_MO_unpack 71 = .ok (.istore 5, 2) := by decide +kernel
theorem d_MO_unpack_73 : decode b_MO_unpack 73 = .ok (.iload 5, 2) := by decide +kernel
theorem d_MO_unpack_75 : decode b_MO_unpack 75 = .ok (.iconst 4, 1) := by decide +kernel
theorem d_MO_unpack_76 : decode b_MO_unpack 76 = .ok (.if_icmp .ge 28, 3) := by decide +kernel
theorem d_MO_unpack_79 : decode b_MO_unpack 79 = .ok (.aload_n 0, 1) := by decide +kernel
theorem d_MO_unpack_80 : decode b_MO_unpack 80 = .ok (.getfield 28, 3) := by decide +kernel
theorem d_MO_unpack_83 : decode b_MO_unpack 83 = .ok (.iload 5, 2) := by decide +kernel
theorem d_MO_unpack_85 : decode b_MO_unpack 85 = .ok (.lload_n 1, 1) := by decide +kernel
theorem d_MO_unpack_86 : decode b_MO_unpack 86 = .ok (.bipush 6, 2) := by decide +kernel
theorem d_MO_unpack_88 : decode b_MO_unpack 88 = .ok (.iconst 2, 1) := by decide +kernel
theorem d_MO_unpack_89 : decode b_MO_unpack 89 = .ok (.iload 5, 2) := by decide +kernel
theorem d_MO_unpack_91 : decode b_MO_unpack 91 = .ok (.imul, 1) := by decide +kernel
theorem d_MO_unpack_92 : decode b_MO_unpack 92 = .ok (.isub, 1) := by decide +kernel
theorem d_MO_unpack_93 : decode b_MO_unpack 93 = .ok (.lshr, 1) := by decide +kernel
theorem d_MO_unpack_94 : decode b_MO_unpack 94 = .ok (.l2i, 1) := by decide +kernel
theorem d_MO_unpack_95 : decode b_MO_unpack 95 = .ok (.iconst 3, 1) := by decide +kernel
theorem d_MO_unpack_96 : decode b_MO_unpack 96 = .ok (.iand, 1) := by decide +kernel
theorem d_MO_unpack_97 : decode b_MO_unpack 97 = .ok (.iastore, 1) := by decide +kernel
theorem d_MO_unpack_98 : decode b_MO_unpack 98 = .ok (.iinc 5 1, 3) := by decide +kernel
theorem d_MO_unpack_101 : decode b_MO_unpack 101 = .ok (.goto (-28), 3) := by decide +kernel
theorem d_MO_unpack_104 : decode b_MO_unpack 104 = .ok (.iconst 0, 1) := by decide +kernel
theorem d_MO_unpack_105 : decode b_MO_unpack 105 = .ok (.istore 5, 2) := by decide +kernel
theorem d_MO_unpack_107 : decode b_MO_unpack 107 = .ok (.iload 5, 2) := by decide +kernel
theorem d_MO_unpack_109 : decode b_MO_unpack 109 = .ok (.iconst 4, 1) := by decide +kernel
theorem d_MO_unpack_110 : decode b_MO_unpack 110 = .ok (.if_icmp .ge 100, 3) := by decide +kernel
theorem d_MO_unpack_113 : decode b_MO_unpack 113 = .ok (.lload_n 3, 1) := by decide +kernel
theorem d_MO_unpack_114 : decode b_MO_unpack 114 = .ok (.bipush 42, 2) := by decide +kernel
theorem d_MO_unpack_116 : decode b_MO_unpack 116 = .ok (.bipush 14, 2) := by decide +kernel
theorem d_MO_unpack_118 : decode b_MO_unpack 118 = .ok (.iload 5, 2) := by decide +kernel
theorem d_MO_unpack_120 : decode b_MO_unpack 120 = .ok (.imul, 1) := by decide +kernel
theorem d_MO_unpack_121 : decode b_MO_unpack 121 = .ok (.isub, 1) := by decide +kernel
theorem d_MO_unpack_122 : decode b_MO_unpack 122 = .ok (.lshr, 1) := by decide +kernel
theorem d_MO_unpack_123 : decode b_MO_unpack 123 = .ok (.l2i, 1) := by decide +kernel
theorem d_MO_unpack_124 : decode b_MO_unpack 124 = .ok (.sipush 16383, 3) := by decide +kernel
theorem d_MO_unpack_127 : decode b_MO_unpack 127 = .ok (.iand, 1) := by decide +kernel
theorem d_MO_unpack_128 : decode b_MO_unpack 128 = .ok (.istore 6, 2) := by decide +kernel
theorem d_MO_unpack_130 : decode b_MO_unpack 130 = .ok (.aload_n 0, 1) := by decide +kernel
theorem d_MO_unpack_131 : decode b_MO_unpack 131 = .ok (.getfield 31, 3) := by decide +kernel
theorem d_MO_unpack_134 : decode b_MO_unpack 134 = .ok (.iload 5, 2) := by decide +kernel
theorem d_MO_unpack_136 : decode b_MO_unpack 136 = .ok (.iload 6, 2) := by decide +kernel
theorem d_MO_unpack_138 : decode b_MO_unpack 138 = .ok (.bipush 12, 2) := by decide +kernel
theorem d_MO_unpack_140 : decode b_MO_unpack 140 = .ok (.ishr, 1) := by decide +kernel
theorem d_MO_unpack_141 : decode b_MO_unpack 141 = .ok (.iastore, 1) := by decide +kernel
theorem d_MO_unpack_142 : decode b_MO_unpack 142 = .ok (.iconst 0, 1) := by decide +kernel
theorem d_MO_unpack_143 : decode b_MO_unpack 143 = .ok (.istore 7, 2) := by decide +kernel
theorem d_MO_unpack_145 : decode b_MO_unpack 145 = .ok (.iload 7, 2) := by decide +kernel
theorem d_MO_unpack_147 : decode b_MO_unpack 147 = .ok (.iconst 3, 1) := by decide +kernel
theorem d_MO_unpack_148 : decode b_MO_unpack 148 = .ok (.if_icmp .ge 56, 3) := by decide +kernel
theorem d_MO_unpack_151 : decode b_MO_unpack 151 = .ok (.iload 6, 2) := by decide +kernel
theorem d_MO_unpack_153 : decode b_MO_unpack 153 = .ok (.bipush 8, 2) := by decide +kernel
theorem d_MO_unpack_155 : decode b_MO_unpack 155 = .ok (.iconst 4, 1) := by decide +kernel
theorem d_MO_unpack_156 : decode b_MO_unpack 156 = .ok (.iload 7, 2) := by decide +kernel
theorem d_MO_unpack_158 : decode b_MO_unpack 158 = .ok (.imul, 1) := by decide +kernel
theorem d_MO_unpack_159 : decode b_MO_unpack 159 = .ok (.isub, 1) := by decide +kernel
theorem d_MO_unpack_160 : decode b_MO_unpack 160 = .ok (.ishr, 1) := by decide +kernel
theorem d_MO_unpack_161 : decode b_MO_unpack 161 = .ok (.bipush 15, 2) := by decide +kernel
theorem d_MO_unpack_163 : decode b_MO_unpack 163 = .ok (.iand, 1) := by decide +kernel
theorem d_MO_unpack_164 : decode b_MO_unpack 164 = .ok (.istore 8, 2) := by decide +kernel
theorem d_MO_unpack_166 : decode b_MO_unpack 166 = .ok (.aload_n 0, 1) := by decide +kernel
theorem d_MO_unpack_167 : decode b_MO_unpack 167 = .ok (.getfield 34, 3) := by decide +kernel
theorem d_MO_unpack_170 : decode b_MO_unpack 170 = .ok (.iconst 3, 1) := by decide +kernel
theorem d_MO_unpack_171 : decode b_MO_unpack 171 = .ok (.iload 5, 2) := by decide +kernel
theorem d_MO_unpack_173 : decode b_MO_unpack 173 = .ok (.imul, 1) := by decide +kernel
theorem d_MO_unpack_174 : decode b_MO_unpack 174 = .ok (.iload 7, 2) := by decide +kernel
theorem d_MO_unpack_176 : decode b_MO_unpack 176 = .ok (.iadd, 1) := by decide +kernel
theorem d_MO_unpack_177 : decode b_MO_unpack 177 = .ok (.iload 8, 2) := by decide +kernel
theorem d_MO_unpack_179 : decode b_MO_unpack 179 = .ok (.iconst 4, 1) := by decide +kernel
theorem d_MO_unpack_180 : decode b_MO_unpack 180 = .ok (.idiv, 1) := by decide +kernel
theorem d_MO_unpack_181 : decode b_MO_unpack 181 = .ok (.iastore, 1) := by decide +kernel
theorem d_MO_unpack_182 : decode b_MO_unpack 182 = .ok (.aload_n 0, 1) := by decide +kernel
theorem d_MO_unpack_183 : decode b_MO_unpack 183 = .ok (.getfield 37, 3) := by decide +kernel
theorem d_MO_unpack_186 : decode b_MO_unpack 186 = .ok (.iconst 3, 1) := by decide +kernel
theorem d_MO_unpack_187 : decode b_MO_unpack 187 = .ok (.iload 5, 2) := by decide +kernel
theorem d_MO_unpack_189 : decode b_MO_unpack 189 = .ok (.imul, 1) := by decide +kernel
theorem d_MO_unpack_190 : decode b_MO_unpack 190 = .ok (.iload 7, 2) := by decide +kernel
theorem d_MO_unpack_192 : decode b_MO_unpack 192 = .ok (.iadd, 1) := by decide +kernel
theorem d_MO_unpack_193 : decode b_MO_unpack 193 = .ok (.iload 8, 2) := by decide +kernel
theorem d_MO_unpack_195 : decode b_MO_unpack 195 = .ok (.iconst 4, 1) := by decide +kernel
theorem d_MO_unpack_196 : decode b_MO_unpack 196 = .ok (.irem, 1) := by decide +kernel
theorem d_MO_unpack_197 : decode b_MO_unpack 197 = .ok (.iastore, 1) := by decide +kernel
theorem d_MO_unpack_198 : decode b_MO_unpack 198 = .ok (.iinc 7 1, 3) := by decide +kernel
theorem d_MO_unpack_201 : decode b_MO_unpack 201 = .ok (.goto (-56), 3) := by decide +kernel
theorem d_MO_unpack_204 : decode b_MO_unpack 204 = .ok (.iinc 5 1, 3) := by decide +kernel
theorem d_MO_unpack_207 : decode b_MO_unpack 207 = .ok (.goto (-100), 3) := by decide +kernel
theorem d_MO_unpack_210 : decode b_MO_unpack 210 = .ok (.return_, 1) := by decide +kernel
theorem d_MO_bufferOf_0 : decode b_MO_bufferOf 0 = .ok (.iload_n 1, 1) := by decide +kernel
