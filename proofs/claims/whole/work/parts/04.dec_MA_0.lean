theorem d_MA_init_0 : decode b_MA_init 0 = .ok (.aload_n 0, 1) := by decide +kernel
theorem d_MA_init_1 : decode b_MA_init 1 = .ok (.invokespecial 5, 3) := by decide +kernel
theorem d_MA_init_4 : decode b_MA_init 4 = .ok (.aload_n 0, 1) := by decide +kernel
theorem d_MA_init_5 : decode b_MA_init 5 = .ok (.aload_n 1, 1) := by decide +kernel
theorem d_MA_init_6 : decode b_MA_init 6 = .ok (.putfield 11, 3) := by decide +kernel
theorem d_MA_init_9 : decode b_MA_init 9 = .ok (.return_, 1) := by decide +kernel
theorem d_MA_become_0 : decode b_MA_become 0 = .ok (.aload_n 0, 1) := by decide +kernel
theorem d_MA_become_1 : decode b_MA_become 1 = .ok (.iload_n 1, 1) := by decide +kernel
theorem d_MA_become_2 : decode b_MA_become 2 = .ok (.putfield 15, 3) := by decide +kernel
theorem d_MA_become_5 : decode b_MA_become 5 = .ok (.return_, 1) := by decide +kernel
theorem d_MA_standAt_0 : decode b_MA_standAt 0 = .ok (.aload_n 0, 1) := by decide +kernel
theorem d_MA_standAt_1 : decode b_MA_standAt 1 = .ok (.lload_n 1, 1) := by decide +kernel
theorem d_MA_standAt_2 : decode b_MA_standAt 2 = .ok (.putfield 19, 3) := by decide +kernel
theorem d_MA_standAt_5 : decode b_MA_standAt 5 = .ok (.aload_n 0, 1) := by decide +kernel
theorem d_MA_standAt_6 : decode b_MA_standAt 6 = .ok (.lload_n 3, 1) := by decide +kernel
theorem d_MA_standAt_7 : decode b_MA_standAt 7 = .ok (.putfield 23, 3) := by decide +kernel
theorem d_MA_standAt_10 : decode b_MA_standAt 10 = .ok (.return_, 1) := by decide +kernel
theorem d_MA_stepsEnd_0 : decode b_MA_stepsEnd 0 = .ok (.aload_n 0, 1) := by decide +kernel
theorem d_MA_stepsEnd_1 : decode b_MA_stepsEnd 1 = .ok (.getfield 23, 3) := by decide +kernel
theorem d_MA_stepsEnd_4 : decode b_MA_stepsEnd 4 = .ok (.lconst 0, 1) := by decide +kernel
theorem d_MA_stepsEnd_5 : decode b_MA_stepsEnd 5 = .ok (.lcmp, 1) := by decide +kernel
theorem d_MA_stepsEnd_6 : decode b_MA_stepsEnd 6 = .ok (.ifCond .ne 7, 3) := by decide +kernel
theorem d_MA_stepsEnd_9 : decode b_MA_stepsEnd 9 = .ok (.iconst 4, 1) := by decide +kernel
theorem d_MA_stepsEnd_10 : decode b_MA_stepsEnd 10 = .ok (.goto 11, 3) := by decide +kernel
theorem d_MA_stepsEnd_13 : decode b_MA_stepsEnd 13 = .ok (.getstatic 26, 3) := by decide +kernel
theorem d_MA_stepsEnd_16 : decode b_MA_stepsEnd 16 = .ok (.aload_n 0, 1) := by decide +kernel
theorem d_MA_stepsEnd_17 : decode b_MA_stepsEnd 17 = .ok (.getfield 15, 3) := by decide +kernel
theorem d_MA_stepsEnd_20 : decode b_MA_stepsEnd 20 = .ok (.iaload, 1) := by decide +kernel
theorem d_MA_stepsEnd_21 : decode b_MA_stepsEnd 21 = .ok (.ireturn, 1) := by decide +kernel
theorem d_MA_outcomeHere_0 : decode b_MA_outcomeHere 0 = .ok (.aload_n 0, 1) := by decide +kernel
theorem d_MA_outcomeHere_1 : decode b_MA_outcomeHere 1 = .ok (.getfield 19, 3) := by decide +kernel
theorem d_MA_outcomeHere_4 : decode b_MA_outcomeHere 4 = .ok (.ldc2_w 30, 3) := by decide +kernel
theorem d_MA_outcomeHere_7 : decode b_MA_outcomeHere 7 = .ok (.land, 1) := by decide +kernel
theorem d_MA_outcomeHere_8 : decode b_MA_outcomeHere 8 = .ok (.lreturn, 1) := by decide +kernel
theorem d_MA_cutHere_0 : decode b_MA_cutHere 0 = .ok (.aload_n 0, 1) := by decide +kernel
theorem d_MA_cutHere_1 : decode b_MA_cutHere 1 = .ok (.iconst 0, 1) := by decide +kernel
theorem d_MA_cutHere_2 : decode b_MA_cutHere 2 = .ok (.sipush 255, 3) := by decide +kernel
theorem d_MA_cutHere_5 : decode b_MA_cutHere 5 = .ok (.invokevirtual 32, 3) := by decide +kernel
theorem d_MA_cutHere_8 : decode b_MA_cutHere 8 = .ok (.ireturn, 1) := by decide +kernel
theorem d_MA_isAtEnd_0 : decode b_MA_isAtEnd 0 = .ok (.iconst 0, 1) := by decide +kernel
theorem d_MA_isAtEnd_1 : decode b_MA_isAtEnd 1 = .ok (.istore_n 1, 1) := by decide +kernel
theorem d_MA_isAtEnd_2 : decode b_MA_isAtEnd 2 = .ok (.iload_n 1, 1) := by decide +kernel
theorem d_MA_isAtEnd_3 : decode b_MA_isAtEnd 3 = .ok (.iconst 4, 1) := by decide +kernel
theorem d_MA_isAtEnd_4 : decode b_MA_isAtEnd 4 = .ok (.if_icmp .ge 32, 3) := by decide +kernel
theorem d_MA_isAtEnd_7 : decode b_MA_isAtEnd 7 = .ok (.aload_n 0, 1) := by decide +kernel
theorem d_MA_isAtEnd_8 : decode b_MA_isAtEnd 8 = .ok (.iload_n 1, 1) := by decide +kernel
theorem d_MA_isAtEnd_9 : decode b_MA_isAtEnd 9 = .ok (.invokestatic 36, 3) := by decide +kernel
theorem d_MA_isAtEnd_12 : decode b_MA_isAtEnd 12 = .ok (.bipush 7, 2) := by decide +kernel
theorem d_MA_isAtEnd_14 : decode b_MA_isAtEnd 14 = .ok (.invokevirtual 32, 3) := by decide +kernel
theorem d_MA_isAtEnd_17 : decode b_MA_isAtEnd 17 = .ok (.aload_n 0, 1) := by decide +kernel
theorem d_MA_isAtEnd_18 : decode b_MA_isAtEnd 18 = .ok (.getfield 11, 3) := by decide +kernel
theorem d_MA_isAtEnd_21 : decode b_MA_isAtEnd 21 = .ok (.iload_n 1, 1) := by decide +kernel
theorem d_MA_isAtEnd_22 : decode b_MA_isAtEnd 22 = .ok (.invokevirtual 40, 3) := by decide +kernel
theorem d_MA_isAtEnd_25 : decode b_MA_isAtEnd 25 = .ok (.if_icmp .ge 5, 3) := by decide +kernel
theorem d_MA_isAtEnd_28 : decode b_MA_isAtEnd 28 = .ok (.iconst 0, 1) := by decide +kernel
theorem d_MA_isAtEnd_29 : decode b_MA_isAtEnd 29 = .ok (.ireturn, 1) := by decide +kernel
theorem d_MA_isAtEnd_30 : decode b_MA_isAtEnd 30 = .ok (.iinc 1 1, 3) := by decide +kernel
theorem d_MA_isAtEnd_33 : decode b_MA_isAtEnd 33 = .ok (.goto (-31), 3) := by decide +kernel
theorem d_MA_isAtEnd_36 : decode b_MA_isAtEnd 36 = .ok (.aload_n 0, 1) := by decide +kernel
theorem d_MA_isAtEnd_37 : decode b_MA_isAtEnd 37 = .ok (.getfield 23, 3) := by decide +kernel
theorem d_MA_isAtEnd_40 : decode b_MA_isAtEnd 40 = .ok (.lconst 0, 1) := by decide +kernel
theorem d_MA_isAtEnd_41 : decode b_MA_isAtEnd 41 = .ok (.lcmp, 1) := by decide +kernel
theorem d_MA_isAtEnd_42 : decode b_MA_isAtEnd 42 = .ok (.ifCond .ne 7, 3) := by decide +kernel
theorem d_MA_isAtEnd_45 : decode b_MA_isAtEnd 45 = .ok (.iconst 1, 1) := by decide +kernel
theorem d_MA_isAtEnd_46 : decode b_MA_isAtEnd 46 = .ok (.goto 4, 3) := by decide +kernel
theorem d_MA_isAtEnd_49 : decode b_MA_isAtEnd 49 = .ok (.iconst 0, 1) := by decide +kernel
theorem d_MA_isAtEnd_50 : decode b_MA_isAtEnd 50 = .ok (.ireturn, 1) := by decide +kernel
theorem d_MA_go_0 : decode b_MA_go 0 = .ok (.aload_n 0, 1) := by decide +kernel
theorem d_MA_go_1 : decode b_MA_go 1 = .ok (.aload_n 0, 1) := by decide +kernel
theorem d_MA_go_2 : decode b_MA_go 2 = .ok (.getfield 19, 3) := by decide +kernel
theorem d_MA_go_5 : decode b_MA_go 5 = .ok (.putfield 45, 3) := by decide +kernel
theorem d_MA_go_8 : decode b_MA_go 8 = .ok (.aload_n 0, 1) := by decide +kernel
theorem d_MA_go_9 : decode b_MA_go 9 = .ok (.aload_n 0, 1) := by decide +kernel
theorem d_MA_go_10 : decode b_MA_go 10 = .ok (.getfield 23, 3) := by decide +kernel
theorem d_MA_go_13 : decode b_MA_go 13 = .ok (.putfield 48, 3) := by decide +kernel
theorem d_MA_go_16 : decode b_MA_go 16 = .ok (.iload_n 1, 1) := by decide +kernel
theorem d_MA_go_17 : decode b_MA_go 17 = .ok (.iconst 4, 1) := by decide +kernel
theorem d_MA_go_18 : decode b_MA_go 18 = .ok (.if_icmp .ge 9, 3) := by decide +kernel
theorem d_MA_go_21 : decode b_MA_go 21 = .ok (.aload_n 0, 1) := by decide +kernel
theorem d_MA_go_22 : decode b_MA_go 22 = .ok (.iload_n 1, 1) := by decide +kernel
theorem d_MA_go_23 : decode b_MA_go 23 = .ok (.invokevirtual 51, 3) := by decide +kernel
theorem d_MA_go_26 : decode b_MA_go 26 = .ok (.ireturn, 1) := by decide +kernel
theorem d_MA_go_27 : decode b_MA_go 27 = .ok (.aload_n 0, 1) := by decide +kernel
theorem d_MA_go_28 : decode b_MA_go 28 = .ok (.getfield 15, 3) := by decide +kernel
theorem d_MA_go_31 : decode b_MA_go 31 = .ok (.iconst 2, 1) := by decide +kernel
theorem d_MA_go_32 : decode b_MA_go 32 = .ok (.if_icmp .eq 12, 3) := by decide +kernel
theorem d_MA_go_35 : decode b_MA_go 35 = .ok (.aload_n 0, 1) := by decide +kernel
theorem d_MA_go_36 : decode b_MA_go 36 = .ok (.iload_n 1, 1) := by decide +kernel
theorem d_MA_go_37 : decode b_MA_go 37 = .ok (.iconst 4, 1) := by decide +kernel
theorem d_MA_go_38 : decode b_MA_go 38 = .ok (.isub, 1) := by decide +kernel
theorem d_MA_go_39 : decode b_MA_go 39 = .ok (.iconst (-1), 1) := by decide +kernel
theorem d_MA_go_40 : decode b_MA_go 40 = .ok (.invokevirtual 55, 3) := by decide +kernel
theorem d_MA_go_43 : decode b_MA_go 43 = .ok (.ireturn, 1) := by decide +kernel
theorem d_MA_go_44 : decode b_MA_go 44 = .ok (.iload_n 1, 1) := by decide +kernel
theorem d_MA_go_45 : decode b_MA_go 45 = .ok (.bipush 8, 2) := by decide +kernel
theorem d_MA_go_47 : decode b_MA_go 47 = .ok (.isub, 1) := by decide +kernel
theorem d_MA_go_48 : decode b_MA_go 48 = .ok (.istore_n 2, 1) := by decide +kernel
theorem d_MA_go_49 : decode b_MA_go 49 = .ok (.iload_n 2, 1) := by decide +kernel
theorem d_MA_go_50 : decode b_MA_go 50 = .ok (.ifCond .lt 20, 3) := by decide +kernel
theorem d_MA_go_53 : decode b_MA_go 53 = .ok (.aload_n 0, 1) := by decide +kernel
theorem d_MA_go_54 : decode b_MA_go 54 = .ok (.iload_n 2, 1) := by decide +kernel
theorem d_MA_go_55 : decode b_MA_go 55 = .ok (.iconst 4, 1) := by decide +kernel
theorem d_MA_go_56 : decode b_MA_go 56 = .ok (.idiv, 1) := by decide +kernel
theorem d_MA_go_57 : decode b_MA_go 57 = .ok (.iload_n 2, 1) := by decide +kernel
theorem d_MA_go_58 : decode b_MA_go 58 = .ok (.iconst 4, 1) := by decide +kernel
theorem d_MA_go_59 : decode b_MA_go 59 = .ok (.irem, 1) := by decide +kernel
theorem d_MA_go_60 : decode b_MA_go 60 = .ok (.invokevirtual 55, 3) := by decide +kernel
theorem d_MA_go_63 : decode b_MA_go 63 = .ok (.ifCond .eq 7, 3) := by decide +kernel
theorem d_MA_go_66 : decode b_MA_go 66 = .ok (.iconst 1, 1) := by decide +kernel
theorem d_MA_go_67 : decode b_MA_go 67 = .ok (.goto 4, 3) := by decide +kernel
theorem d_MA_go_70 : decode b_MA_go 70 = .ok (.iconst 0, 1) := by decide +kernel
theorem d_MA_go_71 : decode b_MA_go 71 = .ok (.ireturn, 1) := by decide +kernel
theorem d_MA_act_0 : decode b_MA_act 0 = .ok (.aload_n 0, 1) := by decide +kernel
theorem d_MA_act_1 : decode b_MA_act 1 = .ok (.iload_n 1, 1) := by decide +kernel
theorem d_MA_act_2 : decode b_MA_act 2 = .ok (.invokestatic 36, 3) := by decide +kernel
theorem d_MA_act_5 : decode b_MA_act 5 = .ok (.bipush 7, 2) := by decide +kernel
theorem d_MA_act_7 : decode b_MA_act 7 = .ok (.invokevirtual 32, 3) := by decide +kernel
theorem d_MA_act_10 : decode b_MA_act 10 = .ok (.istore_n 2, 1) := by decide +kernel
theorem d_MA_act_11 : decode b_MA_act 11 = .ok (.iload_n 2, 1) := by decide +kernel
theorem d_MA_act_12 : decode b_MA_act 12 = .ok (.aload_n 0, 1) := by decide +kernel
theorem d_MA_act_13 : decode b_MA_act 13 = .ok (.getfield 11, 3) := by decide +kernel
theorem d_MA_act_16 : decode b_MA_act 16 = .ok (.iload_n 1, 1) := by decide +kernel
theorem d_MA_act_17 : decode b_MA_act 17 = .ok (.invokevirtual 40, 3) := by decide +kernel
theorem d_MA_act_20 : decode b_MA_act 20 = .ok (.if_icmp .lt 5, 3) := by decide +kernel
theorem d_MA_act_23 : decode b_MA_act 23 = .ok (.iconst 0, 1) := by decide +kernel
theorem d_MA_act_24 : decode b_MA_act 24 = .ok (.ireturn, 1) := by decide +kernel
theorem d_MA_act_25 : decode b_MA_act 25 = .ok (.aload_n 0, 1) := by decide +kernel
theorem d_MA_act_26 : decode b_MA_act 26 = .ok (.getfield 11, 3) := by decide +kernel
theorem d_MA_act_29 : decode b_MA_act 29 = .ok (.iload_n 1, 1) := by decide +kernel
theorem d_MA_act_30 : decode b_MA_act 30 = .ok (.iload_n 2, 1) := by decide +kernel
theorem d_MA_act_31 : decode b_MA_act 31 = .ok (.invokevirtual 59, 3) := by decide +kernel
theorem d_MA_act_34 : decode b_MA_act 34 = .ok (.istore_n 3, 1) := by decide +kernel
theorem d_MA_act_35 : decode b_MA_act 35 = .ok (.iload_n 3, 1) := by decide +kernel
theorem d_MA_act_36 : decode b_MA_act 36 = .ok (.iconst 4, 1) := by decide +kernel
theorem d_MA_act_37 : decode b_MA_act 37 = .ok (.idiv, 1) := by decide +kernel
theorem d_MA_act_38 : decode b_MA_act 38 = .ok (.iconst 4, 1) := by decide +kernel
theorem d_MA_act_39 : decode b_MA_act 39 = .ok (.irem, 1) := by decide +kernel
theorem d_MA_act_40 : decode b_MA_act 40 = .ok (.istore 4, 2) := by decide +kernel
theorem d_MA_act_42 : decode b_MA_act 42 = .ok (.iload_n 3, 1) := by decide +kernel
theorem d_MA_act_43 : decode b_MA_act 43 = .ok (.iconst 4, 1) := by decide +kernel
theorem d_MA_act_44 : decode b_MA_act 44 = .ok (.irem, 1) := by decide +kernel
theorem d_MA_act_45 : decode b_MA_act 45 = .ok (.istore 5, 2) := by decide +kernel
theorem d_MA_act_47 : decode b_MA_act 47 = .ok (.aload_n 0, 1) := by decide +kernel
theorem d_MA_act_48 : decode b_MA_act 48 = .ok (.getfield 15, 3) := by decide +kernel
theorem d_MA_act_51 : decode b_MA_act 51 = .ok (.iconst 3, 1) := by decide +kernel
theorem d_MA_act_52 : decode b_MA_act 52 = .ok (.if_icmp .ne 9, 3) := by decide +kernel
theorem d_MA_act_55 : decode b_MA_act 55 = .ok (.iload_n 1, 1) := by decide +kernel
theorem d_MA_act_56 : decode b_MA_act 56 = .ok (.iconst 2, 1) := by decide +kernel
theorem d_MA_act_57 : decode b_MA_act 57 = .ok (.idiv, 1) := by decide +kernel
theorem d_MA_act_58 : decode b_MA_act 58 = .ok (.goto 4, 3) := by decide +kernel
theorem d_MA_act_61 : decode b_MA_act 61 = .ok (.iload_n 1, 1) := by decide +kernel
theorem d_MA_act_62 : decode b_MA_act 62 = .ok (.istore 6, 2) := by decide +kernel
theorem d_MA_act_64 : decode b_MA_act 64 = .ok (.aload_n 0, 1) := by decide +kernel
theorem d_MA_act_65 : decode b_MA_act 65 = .ok (.iload 6, 2) := by decide +kernel
theorem d_MA_act_67 : decode b_MA_act 67 = .ok (.invokevirtual 62, 3) := by decide +kernel
theorem d_MA_act_70 : decode b_MA_act 70 = .ok (.istore 7, 2) := by decide +kernel
theorem d_MA_act_72 : decode b_MA_act 72 = .ok (.aload_n 0, 1) := by decide +kernel
theorem d_MA_act_73 : decode b_MA_act 73 = .ok (.aload_n 0, 1) := by decide +kernel
theorem d_MA_act_74 : decode b_MA_act 74 = .ok (.getfield 19, 3) := by decide +kernel
theorem d_MA_act_77 : decode b_MA_act 77 = .ok (.lconst 1, 1) := by decide +kernel
theorem d_MA_act_78 : decode b_MA_act 78 = .ok (.iload_n 1, 1) := by decide +kernel
theorem d_MA_act_79 : decode b_MA_act 79 = .ok (.invokestatic 36, 3) := by decide +kernel
theorem d_MA_act_82 : decode b_MA_act 82 = .ok (.lshl, 1) := by decide +kernel
theorem d_MA_act_83 : decode b_MA_act 83 = .ok (.ladd, 1) := by decide +kernel
theorem d_MA_act_84 : decode b_MA_act 84 = .ok (.putfield 45, 3) := by decide +kernel
theorem d_MA_act_87 : decode b_MA_act 87 = .ok (.iload_n 3, 1) := by decide +kernel
theorem d_MA_act_88 : decode b_MA_act 88 = .ok (.bipush 16, 2) := by decide +kernel
theorem d_MA_act_90 : decode b_MA_act 90 = .ok (.idiv, 1) := by decide +kernel
theorem d_MA_act_91 : decode b_MA_act 91 = .ok (.tableswitch 133 0 2 #[25, 80, 122], 25) := by decide +kernel
theorem d_MA_act_116 : decode b_MA_act 116 = .ok (.aload_n 0, 1) := by decide +kernel
theorem d_MA_act_117 : decode b_MA_act 117 = .ok (.getfield 15, 3) := by decide +kernel
theorem d_MA_act_120 : decode b_MA_act 120 = .ok (.ifCond .ne 17, 3) := by decide +kernel
theorem d_MA_act_123 : decode b_MA_act 123 = .ok (.aload_n 0, 1) := by decide +kernel
theorem d_MA_act_124 : decode b_MA_act 124 = .ok (.iload 4, 2) := by decide +kernel
theorem d_MA_act_126 : decode b_MA_act 126 = .ok (.invokestatic 65, 3) := by decide +kernel
theorem d_MA_act_129 : decode b_MA_act 129 = .ok (.iload 5, 2) := by decide +kernel
theorem d_MA_act_131 : decode b_MA_act 131 = .ok (.invokevirtual 68, 3) := by decide +kernel
theorem d_MA_act_134 : decode b_MA_act 134 = .ok (.goto 23, 3) := by decide +kernel
theorem d_MA_act_137 : decode b_MA_act 137 = .ok (.aload_n 0, 1) := by decide +kernel
theorem d_MA_act_138 : decode b_MA_act 138 = .ok (.iload 6, 2) := by decide +kernel
theorem d_MA_act_140 : decode b_MA_act 140 = .ok (.iload 7, 2) := by decide +kernel
theorem d_MA_act_142 : decode b_MA_act 142 = .ok (.iconst 4, 1) := by decide +kernel
theorem d_MA_act_143 : decode b_MA_act 143 = .ok (.iload 4, 2) := by decide +kernel
theorem d_MA_act_145 : decode b_MA_act 145 = .ok (.iadd, 1) := by decide +kernel
theorem d_MA_act_146 : decode b_MA_act 146 = .ok (.iconst 4, 1) := by decide +kernel
theorem d_MA_act_147 : decode b_MA_act 147 = .ok (.imul, 1) := by decide +kernel
theorem d_MA_act_148 : decode b_MA_act 148 = .ok (.iload 5, 2) := by decide +kernel
theorem d_MA_act_150 : decode b_MA_act 150 = .ok (.iadd, 1) := by decide +kernel
theorem d_MA_act_151 : decode b_MA_act 151 = .ok (.invokestatic 72, 3) := by decide +kernel
theorem d_MA_act_154 : decode b_MA_act 154 = .ok (.invokevirtual 75, 3) := by decide +kernel
theorem d_MA_act_157 : decode b_MA_act 157 = .ok (.iload 7, 2) := by decide +kernel
theorem d_MA_act_159 : decode b_MA_act 159 = .ok (.bipush 10, 2) := by decide +kernel
theorem d_MA_act_161 : decode b_MA_act 161 = .ok (.ishr, 1) := by decide +kernel
theorem d_MA_act_162 : decode b_MA_act 162 = .ok (.ifCond .ne 7, 3) := by decide +kernel
theorem d_MA_act_165 : decode b_MA_act 165 = .ok (.iconst 1, 1) := by decide +kernel
theorem d_MA_act_166 : decode b_MA_act 166 = .ok (.goto 4, 3) := by decide +kernel
theorem d_MA_act_169 : decode b_MA_act 169 = .ok (.iconst 0, 1) := by decide +kernel
theorem d_MA_act_170 : decode b_MA_act 170 = .ok (.ireturn, 1) := by decide +kernel
theorem d_MA_act_171 : decode b_MA_act 171 = .ok (.iload 7, 2) := by decide +kernel
theorem d_MA_act_173 : decode b_MA_act 173 = .ok (.iload 4, 2) := by decide +kernel
theorem d_MA_act_175 : decode b_MA_act 175 = .ok (.invokestatic 78, 3) := by decide +kernel
theorem d_MA_act_178 : decode b_MA_act 178 = .ok (.istore 8, 2) := by decide +kernel
theorem d_MA_act_180 : decode b_MA_act 180 = .ok (.aload_n 0, 1) := by decide +kernel
theorem d_MA_act_181 : decode b_MA_act 181 = .ok (.iload_n 1, 1) := by decide +kernel
theorem d_MA_act_182 : decode b_MA_act 182 = .ok (.iload 5, 2) := by decide +kernel
theorem d_MA_act_184 : decode b_MA_act 184 = .ok (.invokestatic 81, 3) := by decide +kernel
theorem d_MA_act_187 : decode b_MA_act 187 = .ok (.iload 8, 2) := by decide +kernel
theorem d_MA_act_189 : decode b_MA_act 189 = .ok (.iconst (-1), 1) := by decide +kernel
theorem d_MA_act_190 : decode b_MA_act 190 = .ok (.if_icmp .ne 16, 3) := by decide +kernel
theorem d_MA_act_193 : decode b_MA_act 193 = .ok (.aload_n 0, 1) := by decide +kernel
theorem d_MA_act_194 : decode b_MA_act 194 = .ok (.iload 4, 2) := by decide +kernel
theorem d_MA_act_196 : decode b_MA_act 196 = .ok (.invokestatic 65, 3) := by decide +kernel
theorem d_MA_act_199 : decode b_MA_act 199 = .ok (.iconst 3, 1) := by decide +kernel
theorem d_MA_act_200 : decode b_MA_act 200 = .ok (.invokevirtual 32, 3) := by decide +kernel
theorem d_MA_act_203 : decode b_MA_act 203 = .ok (.goto 5, 3) := by decide +kernel
theorem d_MA_act_206 : decode b_MA_act 206 = .ok (.iload 8, 2) := by decide +kernel
theorem d_MA_act_208 : decode b_MA_act 208 = .ok (.invokevirtual 68, 3) := by decide +kernel
theorem d_MA_act_211 : decode b_MA_act 211 = .ok (.iconst 1, 1) := by decide +kernel
theorem d_MA_act_212 : decode b_MA_act 212 = .ok (.ireturn, 1) := by decide +kernel
theorem d_MA_act_213 : decode b_MA_act 213 = .ok (.iload 7, 2) := by decide +kernel
theorem d_MA_act_215 : decode b_MA_act 215 = .ok (.ifCond .ne 7, 3) := by decide +kernel
theorem d_MA_act_218 : decode b_MA_act 218 = .ok (.iconst 1, 1) := by decide +kernel
theorem d_MA_act_219 : decode b_MA_act 219 = .ok (.goto 4, 3) := by decide +kernel
theorem d_MA_act_222 : decode b_MA_act 222 = .ok (.iconst 0, 1) := by decide +kernel
theorem d_MA_act_223 : decode b_MA_act 223 = .ok (.ireturn, 1) := by decide +kernel
theorem d_MA_act_224 : decode b_MA_act 224 = .ok (.aload_n 0, 1) := by decide +kernel
theorem d_MA_act_225 : decode b_MA_act 225 = .ok (.iload 4, 2) := by decide +kernel
theorem d_MA_act_227 : decode b_MA_act 227 = .ok (.invokestatic 65, 3) := by decide +kernel
theorem d_MA_act_230 : decode b_MA_act 230 = .ok (.iload 5, 2) := by decide +kernel
theorem d_MA_act_232 : decode b_MA_act 232 = .ok (.invokevirtual 68, 3) := by decide +kernel
theorem d_MA_act_235 : decode b_MA_act 235 = .ok (.iload 7, 2) := by decide +kernel
theorem d_MA_act_237 : decode b_MA_act 237 = .ok (.ifCond .ne 7, 3) := by decide +kernel
theorem d_MA_act_240 : decode b_MA_act 240 = .ok (.iconst 1, 1) := by decide +kernel
theorem d_MA_act_241 : decode b_MA_act 241 = .ok (.goto 4, 3) := by decide +kernel
theorem d_MA_act_244 : decode b_MA_act 244 = .ok (.iconst 0, 1) := by decide +kernel
theorem d_MA_act_245 : decode b_MA_act 245 = .ok (.ireturn, 1) := by decide +kernel
theorem d_MA_withNewest_0 : decode b_MA_withNewest 0 = .ok (.iconst 0, 1) := by decide +kernel
theorem d_MA_withNewest_1 : decode b_MA_withNewest 1 = .ok (.istore_n 2, 1) := by decide +kernel
theorem d_MA_withNewest_2 : decode b_MA_withNewest 2 = .ok (.iload_n 2, 1) := by decide +kernel
theorem d_MA_withNewest_3 : decode b_MA_withNewest 3 = .ok (.iconst 3, 1) := by decide +kernel
theorem d_MA_withNewest_4 : decode b_MA_withNewest 4 = .ok (.if_icmp .ge 25, 3) := by decide +kernel
theorem d_MA_withNewest_7 : decode b_MA_withNewest 7 = .ok (.iload_n 0, 1) := by decide +kernel
theorem d_MA_withNewest_8 : decode b_MA_withNewest 8 = .ok (.iload_n 2, 1) := by decide +kernel
theorem d_MA_withNewest_9 : decode b_MA_withNewest 9 = .ok (.iconst 5, 1) := by decide +kernel
theorem d_MA_withNewest_10 : decode b_MA_withNewest 10 = .ok (.imul, 1) := by decide +kernel
theorem d_MA_withNewest_11 : decode b_MA_withNewest 11 = .ok (.ishr, 1) := by decide +kernel
theorem d_MA_withNewest_12 : decode b_MA_withNewest 12 = .ok (.ifCond .ne 11, 3) := by decide +kernel
theorem d_MA_withNewest_15 : decode b_MA_withNewest 15 = .ok (.iload_n 0, 1) := by decide +kernel
theorem d_MA_withNewest_16 : decode b_MA_withNewest 16 = .ok (.iload_n 1, 1) := by decide +kernel
theorem d_MA_withNewest_17 : decode b_MA_withNewest 17 = .ok (.iload_n 2, 1) := by decide +kernel
theorem d_MA_withNewest_18 : decode b_MA_withNewest 18 = .ok (.iconst 5, 1) := by decide +kernel
theorem d_MA_withNewest_19 : decode b_MA_withNewest 19 = .ok (.imul, 1) := by decide +kernel
theorem d_MA_withNewest_20 : decode b_MA_withNewest 20 = .ok (.ishl, 1) := by decide +kernel
theorem d_MA_withNewest_21 : decode b_MA_withNewest 21 = .ok (.ior, 1) := by decide +kernel
theorem d_MA_withNewest_22 : decode b_MA_withNewest 22 = .ok (.ireturn, 1) := by decide +kernel
theorem d_MA_withNewest_23 : decode b_MA_withNewest 23 = .ok (.iinc 2 1, 3) := by decide +kernel
theorem d_MA_withNewest_26 : decode b_MA_withNewest 26 = .ok (.goto (-24), 3) := by decide +kernel
theorem d_MA_withNewest_29 : decode b_MA_withNewest 29 = .ok (.iload_n 0, 1) := by decide +kernel
theorem d_MA_withNewest_30 : decode b_MA_withNewest 30 = .ok (.ireturn, 1) := by decide +kernel
theorem d_MA_newestFor_0 : decode b_MA_newestFor 0 = .ok (.iconst 2, 1) := by decide +kernel
theorem d_MA_newestFor_1 : decode b_MA_newestFor 1 = .ok (.istore_n 2, 1) := by decide +kernel
theorem d_MA_newestFor_2 : decode b_MA_newestFor 2 = .ok (.iload_n 2, 1) := by decide +kernel
theorem d_MA_newestFor_3 : decode b_MA_newestFor 3 = .ok (.ifCond .lt 31, 3) := by decide +kernel
theorem d_MA_newestFor_6 : decode b_MA_newestFor 6 = .ok (.iload_n 0, 1) := by decide +kernel
theorem d_MA_newestFor_7 : decode b_MA_newestFor 7 = .ok (.iload_n 2, 1) := by decide +kernel
theorem d_MA_newestFor_8 : decode b_MA_newestFor 8 = .ok (.iconst 5, 1) := by decide +kernel
theorem d_MA_newestFor_9 : decode b_MA_newestFor 9 = .ok (.imul, 1) := by decide +kernel
theorem d_MA_newestFor_10 : decode b_MA_newestFor 10 = .ok (.ishr, 1) := by decide +kernel
theorem d_MA_newestFor_11 : decode b_MA_newestFor 11 = .ok (.bipush 31, 2) := by decide +kernel
theorem d_MA_newestFor_13 : decode b_MA_newestFor 13 = .ok (.iand, 1) := by decide +kernel
theorem d_MA_newestFor_14 : decode b_MA_newestFor 14 = .ok (.istore_n 3, 1) := by decide +kernel
theorem d_MA_newestFor_15 : decode b_MA_newestFor 15 = .ok (.iload_n 3, 1) := by decide +kernel
theorem d_MA_newestFor_16 : decode b_MA_newestFor 16 = .ok (.iconst 4, 1) := by decide +kernel
theorem d_MA_newestFor_17 : decode b_MA_newestFor 17 = .ok (.idiv, 1) := by decide +kernel
theorem d_MA_newestFor_18 : decode b_MA_newestFor 18 = .ok (.iconst 4, 1) := by decide +kernel
theorem d_MA_newestFor_19 : decode b_MA_newestFor 19 = .ok (.iload_n 1, 1) := by decide +kernel
theorem d_MA_newestFor_20 : decode b_MA_newestFor 20 = .ok (.iadd, 1) := by decide +kernel
theorem d_MA_newestFor_21 : decode b_MA_newestFor 21 = .ok (.if_icmp .ne 7, 3) := by decide +kernel
theorem d_MA_newestFor_24 : decode b_MA_newestFor 24 = .ok (.iload_n 3, 1) := by decide +kernel
theorem d_MA_newestFor_25 : decode b_MA_newestFor 25 = .ok (.iconst 4, 1) := by decide +kernel
theorem d_MA_newestFor_26 : decode b_MA_newestFor 26 = .ok (.irem, 1) := by decide +kernel
theorem d_MA_newestFor_27 : decode b_MA_newestFor 27 = .ok (.ireturn, 1) := by decide +kernel
theorem d_MA_newestFor_28 : decode b_MA_newestFor 28 = .ok (.iinc 2 (-1), 3) := by decide +kernel
theorem d_MA_newestFor_31 : decode b_MA_newestFor 31 = .ok (.goto (-29), 3) := by decide +kernel
theorem d_MA_newestFor_34 : decode b_MA_newestFor 34 = .ok (.iconst (-1), 1) := by decide +kernel
theorem d_MA_newestFor_35 : decode b_MA_newestFor 35 = .ok (.ireturn, 1) := by decide +kernel
theorem d_MA_drain_0 : decode b_MA_drain 0 = .ok (.aload_n 0, 1) := by decide +kernel
theorem d_MA_drain_1 : decode b_MA_drain 1 = .ok (.iload_n 1, 1) := by decide +kernel
theorem d_MA_drain_2 : decode b_MA_drain 2 = .ok (.invokevirtual 62, 3) := by decide +kernel
theorem d_MA_drain_5 : decode b_MA_drain 5 = .ok (.istore_n 3, 1) := by decide +kernel
theorem d_MA_drain_6 : decode b_MA_drain 6 = .ok (.iconst 0, 1) := by decide +kernel
theorem d_MA_drain_7 : decode b_MA_drain 7 = .ok (.istore 4, 2) := by decide +kernel
theorem d_MA_drain_9 : decode b_MA_drain 9 = .ok (.iload 4, 2) := by decide +kernel
theorem d_MA_drain_11 : decode b_MA_drain 11 = .ok (.iconst 3, 1) := by decide +kernel
theorem d_MA_drain_12 : decode b_MA_drain 12 = .ok (.if_icmp .ge 94, 3) := by decide +kernel
theorem d_MA_drain_15 : decode b_MA_drain 15 = .ok (.iload_n 3, 1) := by decide +kernel
theorem d_MA_drain_16 : decode b_MA_drain 16 = .ok (.iload 4, 2) := by decide +kernel
theorem d_MA_drain_18 : decode b_MA_drain 18 = .ok (.iconst 5, 1) := by decide +kernel
theorem d_MA_drain_19 : decode b_MA_drain 19 = .ok (.imul, 1) := by decide +kernel
theorem d_MA_drain_20 : decode b_MA_drain 20 = .ok (.ishr, 1) := by decide +kernel
theorem d_MA_drain_21 : decode b_MA_drain 21 = .ok (.istore 5, 2) := by decide +kernel
theorem d_MA_drain_23 : decode b_MA_drain 23 = .ok (.iload 5, 2) := by decide +kernel
theorem d_MA_drain_25 : decode b_MA_drain 25 = .ok (.ifCond .ne 5, 3) := by decide +kernel
theorem d_MA_drain_28 : decode b_MA_drain 28 = .ok (.iconst 0, 1) := by decide +kernel
theorem d_MA_drain_29 : decode b_MA_drain 29 = .ok (.ireturn, 1) := by decide +kernel
theorem d_MA_drain_30 : decode b_MA_drain 30 = .ok (.iload 5, 2) := by decide +kernel
theorem d_MA_drain_32 : decode b_MA_drain 32 = .ok (.bipush 31, 2) := by decide +kernel
theorem d_MA_drain_34 : decode b_MA_drain 34 = .ok (.iand, 1) := by decide +kernel
theorem d_MA_drain_35 : decode b_MA_drain 35 = .ok (.istore 6, 2) := by decide +kernel
theorem d_MA_drain_37 : decode b_MA_drain 37 = .ok (.iload 6, 2) := by decide +kernel
theorem d_MA_drain_39 : decode b_MA_drain 39 = .ok (.iconst 4, 1) := by decide +kernel
theorem d_MA_drain_40 : decode b_MA_drain 40 = .ok (.idiv, 1) := by decide +kernel
theorem d_MA_drain_41 : decode b_MA_drain 41 = .ok (.iconst 4, 1) := by decide +kernel
theorem d_MA_drain_42 : decode b_MA_drain 42 = .ok (.isub, 1) := by decide +kernel
theorem d_MA_drain_43 : decode b_MA_drain 43 = .ok (.istore 7, 2) := by decide +kernel
theorem d_MA_drain_45 : decode b_MA_drain 45 = .ok (.iload_n 2, 1) := by decide +kernel
theorem d_MA_drain_46 : decode b_MA_drain 46 = .ok (.iconst (-1), 1) := by decide +kernel
theorem d_MA_drain_47 : decode b_MA_drain 47 = .ok (.if_icmp .eq 9, 3) := by decide +kernel
theorem d_MA_drain_50 : decode b_MA_drain 50 = .ok (.iload 7, 2) := by decide +kernel
theorem d_MA_drain_52 : decode b_MA_drain 52 = .ok (.iload_n 2, 1) := by decide +kernel
theorem d_MA_drain_53 : decode b_MA_drain 53 = .ok (.if_icmp .ne 47, 3) := by decide +kernel
theorem d_MA_drain_56 : decode b_MA_drain 56 = .ok (.iload_n 3, 1) := by decide +kernel
theorem d_MA_drain_57 : decode b_MA_drain 57 = .ok (.iconst 1, 1) := by decide +kernel
theorem d_MA_drain_58 : decode b_MA_drain 58 = .ok (.iload 4, 2) := by decide +kernel
theorem d_MA_drain_60 : decode b_MA_drain 60 = .ok (.iconst 5, 1) := by decide +kernel
theorem d_MA_drain_61 : decode b_MA_drain 61 = .ok (.imul, 1) := by decide +kernel
theorem d_MA_drain_62 : decode b_MA_drain 62 = .ok (.ishl, 1) := by decide +kernel
theorem d_MA_drain_63 : decode b_MA_drain 63 = .ok (.iconst 1, 1) := by decide +kernel
theorem d_MA_drain_64 : decode b_MA_drain 64 = .ok (.isub, 1) := by decide +kernel
theorem d_MA_drain_65 : decode b_MA_drain 65 = .ok (.iand, 1) := by decide +kernel
theorem d_MA_drain_66 : decode b_MA_drain 66 = .ok (.istore 8, 2) := by decide +kernel
theorem d_MA_drain_68 : decode b_MA_drain 68 = .ok (.aload_n 0, 1) := by decide +kernel
theorem d_MA_drain_69 : decode b_MA_drain 69 = .ok (.iload_n 1, 1) := by decide +kernel
theorem d_MA_drain_70 : decode b_MA_drain 70 = .ok (.iload 8, 2) := by decide +kernel
theorem d_MA_drain_72 : decode b_MA_drain 72 = .ok (.iload 5, 2) := by decide +kernel
theorem d_MA_drain_74 : decode b_MA_drain 74 = .ok (.iconst 5, 1) := by decide +kernel
theorem d_MA_drain_75 : decode b_MA_drain 75 = .ok (.ishr, 1) := by decide +kernel
theorem d_MA_drain_76 : decode b_MA_drain 76 = .ok (.iload 4, 2) := by decide +kernel
theorem d_MA_drain_78 : decode b_MA_drain 78 = .ok (.iconst 5, 1) := by decide +kernel
theorem d_MA_drain_79 : decode b_MA_drain 79 = .ok (.imul, 1) := by decide +kernel
theorem d_MA_drain_80 : decode b_MA_drain 80 = .ok (.ishl, 1) := by decide +kernel
theorem d_MA_drain_81 : decode b_MA_drain 81 = .ok (.ior, 1) := by decide +kernel
theorem d_MA_drain_82 : decode b_MA_drain 82 = .ok (.invokevirtual 75, 3) := by decide +kernel
theorem d_MA_drain_85 : decode b_MA_drain 85 = .ok (.aload_n 0, 1) := by decide +kernel
theorem d_MA_drain_86 : decode b_MA_drain 86 = .ok (.iload 7, 2) := by decide +kernel
theorem d_MA_drain_88 : decode b_MA_drain 88 = .ok (.invokestatic 65, 3) := by decide +kernel
theorem d_MA_drain_91 : decode b_MA_drain 91 = .ok (.iload 6, 2) := by decide +kernel
theorem d_MA_drain_93 : decode b_MA_drain 93 = .ok (.iconst 4, 1) := by decide +kernel
theorem d_MA_drain_94 : decode b_MA_drain 94 = .ok (.irem, 1) := by decide +kernel
theorem d_MA_drain_95 : decode b_MA_drain 95 = .ok (.invokevirtual 68, 3) := by decide +kernel
theorem d_MA_drain_98 : decode b_MA_drain 98 = .ok (.iconst 1, 1) := by decide +kernel
theorem d_MA_drain_99 : decode b_MA_drain 99 = .ok (.ireturn, 1) := by decide +kernel
theorem d_MA_drain_100 : decode b_MA_drain 100 = .ok (.iinc 4 1, 3) := by decide +kernel
theorem d_MA_drain_103 : decode b_MA_drain 103 = .ok (.goto (-94), 3) := by decide +kernel
theorem d_MA_drain_106 : decode b_MA_drain 106 = .ok (.iconst 0, 1) := by decide +kernel
theorem d_MA_drain_107 : decode b_MA_drain 107 = .ok (.ireturn, 1) := by decide +kernel
theorem d_MA_bitsAt_0 : decode b_MA_bitsAt 0 = .ok (.aload_n 0, 1) := by decide +kernel
theorem d_MA_bitsAt_1 : decode b_MA_bitsAt 1 = .ok (.getfield 19, 3) := by decide +kernel
theorem d_MA_bitsAt_4 : decode b_MA_bitsAt 4 = .ok (.iload_n 1, 1) := by decide +kernel
theorem d_MA_bitsAt_5 : decode b_MA_bitsAt 5 = .ok (.lushr, 1) := by decide +kernel
theorem d_MA_bitsAt_6 : decode b_MA_bitsAt 6 = .ok (.l2i, 1) := by decide +kernel
theorem d_MA_bitsAt_7 : decode b_MA_bitsAt 7 = .ok (.iload_n 2, 1) := by decide +kernel
theorem d_MA_bitsAt_8 : decode b_MA_bitsAt 8 = .ok (.iand, 1) := by decide +kernel
theorem d_MA_bitsAt_9 : decode b_MA_bitsAt 9 = .ok (.ireturn, 1) := by decide +kernel
theorem d_MA_entriesOf_0 : decode b_MA_entriesOf 0 = .ok (.aload_n 0, 1) := by decide +kernel
theorem d_MA_entriesOf_1 : decode b_MA_entriesOf 1 = .ok (.getfield 23, 3) := by decide +kernel
theorem d_MA_entriesOf_4 : decode b_MA_entriesOf 4 = .ok (.iload_n 1, 1) := by decide +kernel
theorem d_MA_entriesOf_5 : decode b_MA_entriesOf 5 = .ok (.bipush 15, 2) := by decide +kernel
theorem d_MA_entriesOf_7 : decode b_MA_entriesOf 7 = .ok (.imul, 1) := by decide +kernel
theorem d_MA_entriesOf_8 : decode b_MA_entriesOf 8 = .ok (.lushr, 1) := by decide +kernel
theorem d_MA_entriesOf_9 : decode b_MA_entriesOf 9 = .ok (.l2i, 1) := by decide +kernel
theorem d_MA_entriesOf_10 : decode b_MA_entriesOf 10 = .ok (.sipush 32767, 3) := by decide +kernel
theorem d_MA_entriesOf_13 : decode b_MA_entriesOf 13 = .ok (.iand, 1) := by decide +kernel
theorem d_MA_entriesOf_14 : decode b_MA_entriesOf 14 = .ok (.ireturn, 1) := by decide +kernel
theorem d_MA_setEntries_0 : decode b_MA_setEntries 0 = .ok (.iload_n 1, 1) := by decide +kernel
theorem d_MA_setEntries_1 : decode b_MA_setEntries 1 = .ok (.bipush 15, 2) := by decide +kernel
theorem d_MA_setEntries_3 : decode b_MA_setEntries 3 = .ok (.imul, 1) := by decide +kernel
theorem d_MA_setEntries_4 : decode b_MA_setEntries 4 = .ok (.istore_n 3, 1) := by decide +kernel
theorem d_MA_setEntries_5 : decode b_MA_setEntries 5 = .ok (.aload_n 0, 1) := by decide +kernel
theorem d_MA_setEntries_6 : decode b_MA_setEntries 6 = .ok (.aload_n 0, 1) := by decide +kernel
theorem d_MA_setEntries_7 : decode b_MA_setEntries 7 = .ok (.getfield 23, 3) := by decide +kernel
theorem d_MA_setEntries_10 : decode b_MA_setEntries 10 = .ok (.ldc2_w 84, 3) := by decide +kernel
theorem d_MA_setEntries_13 : decode b_MA_setEntries 13 = .ok (.iload_n 3, 1) := by decide +kernel
theorem d_MA_setEntries_14 : decode b_MA_setEntries 14 = .ok (.lshl, 1) := by decide +kernel
theorem d_MA_setEntries_15 : decode b_MA_setEntries 15 = .ok (.ldc2_w 86, 3) := by decide +kernel
theorem d_MA_setEntries_18 : decode b_MA_setEntries 18 = .ok (.lxor, 1) := by decide +kernel
theorem d_MA_setEntries_19 : decode b_MA_setEntries 19 = .ok (.land, 1) := by decide +kernel
theorem d_MA_setEntries_20 : decode b_MA_setEntries 20 = .ok (.iload_n 2, 1) := by decide +kernel
theorem d_MA_setEntries_21 : decode b_MA_setEntries 21 = .ok (.i2l, 1) := by decide +kernel
theorem d_MA_setEntries_22 : decode b_MA_setEntries 22 = .ok (.iload_n 3, 1) := by decide +kernel
theorem d_MA_setEntries_23 : decode b_MA_setEntries 23 = .ok (.lshl, 1) := by decide +kernel
theorem d_MA_setEntries_24 : decode b_MA_setEntries 24 = .ok (.lor, 1) := by decide +kernel
theorem d_MA_setEntries_25 : decode b_MA_setEntries 25 = .ok (.putfield 48, 3) := by decide +kernel
theorem d_MA_setEntries_28 : decode b_MA_setEntries 28 = .ok (.return_, 1) := by decide +kernel
theorem d_MA_setDigit_0 : decode b_MA_setDigit 0 = .ok (.aload_n 0, 1) := by decide +kernel
theorem d_MA_setDigit_1 : decode b_MA_setDigit 1 = .ok (.aload_n 0, 1) := by decide +kernel
theorem d_MA_setDigit_2 : decode b_MA_setDigit 2 = .ok (.getfield 45, 3) := by decide +kernel
theorem d_MA_setDigit_5 : decode b_MA_setDigit 5 = .ok (.ldc2_w 88, 3) := by decide +kernel
theorem d_MA_setDigit_8 : decode b_MA_setDigit 8 = .ok (.iload_n 1, 1) := by decide +kernel
theorem d_MA_setDigit_9 : decode b_MA_setDigit 9 = .ok (.lshl, 1) := by decide +kernel
theorem d_MA_setDigit_10 : decode b_MA_setDigit 10 = .ok (.ldc2_w 86, 3) := by decide +kernel
theorem d_MA_setDigit_13 : decode b_MA_setDigit 13 = .ok (.lxor, 1) := by decide +kernel
theorem d_MA_setDigit_14 : decode b_MA_setDigit 14 = .ok (.land, 1) := by decide +kernel
theorem d_MA_setDigit_15 : decode b_MA_setDigit 15 = .ok (.iload_n 2, 1) := by decide +kernel
theorem d_MA_setDigit_16 : decode b_MA_setDigit 16 = .ok (.i2l, 1) := by decide +kernel
theorem d_MA_setDigit_17 : decode b_MA_setDigit 17 = .ok (.iload_n 1, 1) := by decide +kernel
theorem d_MA_setDigit_18 : decode b_MA_setDigit 18 = .ok (.lshl, 1) := by decide +kernel
theorem d_MA_setDigit_19 : decode b_MA_setDigit 19 = .ok (.lor, 1) := by decide +kernel
theorem d_MA_setDigit_20 : decode b_MA_setDigit 20 = .ok (.putfield 45, 3) := by decide +kernel
theorem d_MA_setDigit_23 : decode b_MA_setDigit 23 = .ok (.return_, 1) := by decide +kernel
theorem d_MA_doneShift_0 : decode b_MA_doneShift 0 = .ok (.bipush 40, 2) := by decide +kernel
theorem d_MA_doneShift_2 : decode b_MA_doneShift 2 = .ok (.iconst 3, 1) := by decide +kernel
theorem d_MA_doneShift_3 : decode b_MA_doneShift 3 = .ok (.iload_n 0, 1) := by decide +kernel
theorem d_MA_doneShift_4 : decode b_MA_doneShift 4 = .ok (.imul, 1) := by decide +kernel
theorem d_MA_doneShift_5 : decode b_MA_doneShift 5 = .ok (.iadd, 1) := by decide +kernel
theorem d_MA_doneShift_6 : decode b_MA_doneShift 6 = .ok (.ireturn, 1) := by decide +kernel
theorem d_MA_registerShift_0 : decode b_MA_registerShift 0 = .ok (.iconst 2, 1) := by decide +kernel
theorem d_MA_registerShift_1 : decode b_MA_registerShift 1 = .ok (.bipush 19, 2) := by decide +kernel
theorem d_MA_registerShift_3 : decode b_MA_registerShift 3 = .ok (.iconst 4, 1) := by decide +kernel
theorem d_MA_registerShift_4 : decode b_MA_registerShift 4 = .ok (.iload_n 0, 1) := by decide +kernel
theorem d_MA_registerShift_5 : decode b_MA_registerShift 5 = .ok (.imul, 1) := by decide +kernel
theorem d_MA_registerShift_6 : decode b_MA_registerShift 6 = .ok (.isub, 1) := by decide +kernel
theorem d_MA_registerShift_7 : decode b_MA_registerShift 7 = .ok (.iload_n 1, 1) := by decide +kernel
theorem d_MA_registerShift_8 : decode b_MA_registerShift 8 = .ok (.isub, 1) := by decide +kernel
theorem d_MA_registerShift_9 : decode b_MA_registerShift 9 = .ok (.imul, 1) := by decide +kernel
theorem d_MA_registerShift_10 : decode b_MA_registerShift 10 = .ok (.ireturn, 1) := by decide +kernel
theorem d_MA_placeShift_0 : decode b_MA_placeShift 0 = .ok (.iconst 2, 1) := by decide +kernel
theorem d_MA_placeShift_1 : decode b_MA_placeShift 1 = .ok (.iconst 3, 1) := by decide +kernel
theorem d_MA_placeShift_2 : decode b_MA_placeShift 2 = .ok (.iload_n 0, 1) := by decide +kernel
theorem d_MA_placeShift_3 : decode b_MA_placeShift 3 = .ok (.isub, 1) := by decide +kernel
theorem d_MA_placeShift_4 : decode b_MA_placeShift 4 = .ok (.imul, 1) := by decide +kernel
theorem d_MA_placeShift_5 : decode b_MA_placeShift 5 = .ok (.ireturn, 1) := by decide +kernel
