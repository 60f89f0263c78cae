theorem d_MO_add_140 : decode b_MO_add 140 = .ok (.iconst 0, 1) := by decide +kernel
theorem d_MO_add_141 : decode b_MO_add 141 = .ok (.istore 8, 2) := by decide +kernel
theorem d_MO_add_143 : decode b_MO_add 143 = .ok (.iload 8, 2) := by decide +kernel
theorem d_MO_add_145 : decode b_MO_add 145 = .ok (.iconst 4, 1) := by decide +kernel
theorem d_MO_add_146 : decode b_MO_add 146 = .ok (.if_icmp .ge 66, 3) := by decide +kernel
theorem d_MO_add_149 : decode b_MO_add 149 = .ok (.iconst 4, 1) := by decide +kernel
theorem d_MO_add_150 : decode b_MO_add 150 = .ok (.iload 7, 2) := by decide +kernel
theorem d_MO_add_152 : decode b_MO_add 152 = .ok (.imul, 1) := by decide +kernel
theorem d_MO_add_153 : decode b_MO_add 153 = .ok (.aload_n 0, 1) := by decide +kernel
theorem d_MO_add_154 : decode b_MO_add 154 = .ok (.getfield 28, 3) := by decide +kernel
theorem d_MO_add_157 : decode b_MO_add 157 = .ok (.iload 8, 2) := by decide +kernel
theorem d_MO_add_159 : decode b_MO_add 159 = .ok (.iaload, 1) := by decide +kernel
theorem d_MO_add_160 : decode b_MO_add 160 = .ok (.iadd, 1) := by decide +kernel
theorem d_MO_add_161 : decode b_MO_add 161 = .ok (.istore 7, 2) := by decide +kernel
theorem d_MO_add_163 : decode b_MO_add 163 = .ok (.bipush 16, 2) := by decide +kernel
theorem d_MO_add_165 : decode b_MO_add 165 = .ok (.iload_n 1, 1) := by decide +kernel
theorem d_MO_add_166 : decode b_MO_add 166 = .ok (.imul, 1) := by decide +kernel
theorem d_MO_add_167 : decode b_MO_add 167 = .ok (.iconst 4, 1) := by decide +kernel
theorem d_MO_add_168 : decode b_MO_add 168 = .ok (.iload 8, 2) := by decide +kernel
theorem d_MO_add_170 : decode b_MO_add 170 = .ok (.imul, 1) := by decide +kernel
theorem d_MO_add_171 : decode b_MO_add 171 = .ok (.iadd, 1) := by decide +kernel
theorem d_MO_add_172 : decode b_MO_add 172 = .ok (.aload_n 0, 1) := by decide +kernel
theorem d_MO_add_173 : decode b_MO_add 173 = .ok (.getfield 28, 3) := by decide +kernel
theorem d_MO_add_176 : decode b_MO_add 176 = .ok (.iload 8, 2) := by decide +kernel
theorem d_MO_add_178 : decode b_MO_add 178 = .ok (.iaload, 1) := by decide +kernel
theorem d_MO_add_179 : decode b_MO_add 179 = .ok (.iadd, 1) := by decide +kernel
theorem d_MO_add_180 : decode b_MO_add 180 = .ok (.istore 9, 2) := by decide +kernel
theorem d_MO_add_182 : decode b_MO_add 182 = .ok (.aload_n 0, 1) := by decide +kernel
theorem d_MO_add_183 : decode b_MO_add 183 = .ok (.getfield 82, 3) := by decide +kernel
theorem d_MO_add_186 : decode b_MO_add 186 = .ok (.iload 9, 2) := by decide +kernel
theorem d_MO_add_188 : decode b_MO_add 188 = .ok (.iaload, 1) := by decide +kernel
theorem d_MO_add_189 : decode b_MO_add 189 = .ok (.ifCond .ge 17, 3) := by decide +kernel
theorem d_MO_add_192 : decode b_MO_add 192 = .ok (.aload_n 0, 1) := by decide +kernel
theorem d_MO_add_193 : decode b_MO_add 193 = .ok (.getfield 82, 3) := by decide +kernel
theorem d_MO_add_196 : decode b_MO_add 196 = .ok (.iload 9, 2) := by decide +kernel
theorem d_MO_add_198 : decode b_MO_add 198 = .ok (.aload_n 0, 1) := by decide +kernel
theorem d_MO_add_199 : decode b_MO_add 199 = .ok (.getfield 70, 3) := by decide +kernel
theorem d_MO_add_202 : decode b_MO_add 202 = .ok (.iload 5, 2) := by decide +kernel
theorem d_MO_add_204 : decode b_MO_add 204 = .ok (.iaload, 1) := by decide +kernel
theorem d_MO_add_205 : decode b_MO_add 205 = .ok (.iastore, 1) := by decide +kernel
theorem d_MO_add_206 : decode b_MO_add 206 = .ok (.iinc 8 1, 3) := by decide +kernel
theorem d_MO_add_209 : decode b_MO_add 209 = .ok (.goto (-66), 3) := by decide +kernel
theorem d_MO_add_212 : decode b_MO_add 212 = .ok (.aload_n 0, 1) := by decide +kernel
theorem d_MO_add_213 : decode b_MO_add 213 = .ok (.getfield 79, 3) := by decide +kernel
theorem d_MO_add_216 : decode b_MO_add 216 = .ok (.sipush 256, 3) := by decide +kernel
theorem d_MO_add_219 : decode b_MO_add 219 = .ok (.iload_n 1, 1) := by decide +kernel
theorem d_MO_add_220 : decode b_MO_add 220 = .ok (.imul, 1) := by decide +kernel
theorem d_MO_add_221 : decode b_MO_add 221 = .ok (.iload 7, 2) := by decide +kernel
theorem d_MO_add_223 : decode b_MO_add 223 = .ok (.iadd, 1) := by decide +kernel
theorem d_MO_add_224 : decode b_MO_add 224 = .ok (.iconst 1, 1) := by decide +kernel
theorem d_MO_add_225 : decode b_MO_add 225 = .ok (.bastore, 1) := by decide +kernel
theorem d_MO_add_226 : decode b_MO_add 226 = .ok (.return_, 1) := by decide +kernel
theorem d_MO_isEnd_0 : decode b_MO_isEnd 0 = .ok (.iconst 1, 1) := by decide +kernel
theorem d_MO_isEnd_1 : decode b_MO_isEnd 1 = .ok (.istore_n 1, 1) := by decide +kernel
theorem d_MO_isEnd_2 : decode b_MO_isEnd 2 = .ok (.iconst 0, 1) := by decide +kernel
theorem d_MO_isEnd_3 : decode b_MO_isEnd 3 = .ok (.istore_n 2, 1) := by decide +kernel
theorem d_MO_isEnd_4 : decode b_MO_isEnd 4 = .ok (.iload_n 2, 1) := by decide +kernel
theorem d_MO_isEnd_5 : decode b_MO_isEnd 5 = .ok (.iconst 4, 1) := by decide +kernel
theorem d_MO_isEnd_6 : decode b_MO_isEnd 6 = .ok (.if_icmp .ge 43, 3) := by decide +kernel
theorem d_MO_isEnd_9 : decode b_MO_isEnd 9 = .ok (.iload_n 1, 1) := by decide +kernel
theorem d_MO_isEnd_10 : decode b_MO_isEnd 10 = .ok (.ifCond .eq 31, 3) := by decide +kernel
theorem d_MO_isEnd_13 : decode b_MO_isEnd 13 = .ok (.aload_n 0, 1) := by decide +kernel
theorem d_MO_isEnd_14 : decode b_MO_isEnd 14 = .ok (.getfield 22, 3) := by decide +kernel
theorem d_MO_isEnd_17 : decode b_MO_isEnd 17 = .ok (.iload_n 2, 1) := by decide +kernel
theorem d_MO_isEnd_18 : decode b_MO_isEnd 18 = .ok (.iaload, 1) := by decide +kernel
theorem d_MO_isEnd_19 : decode b_MO_isEnd 19 = .ok (.aload_n 0, 1) := by decide +kernel
theorem d_MO_isEnd_20 : decode b_MO_isEnd 20 = .ok (.getfield 7, 3) := by decide +kernel
theorem d_MO_isEnd_23 : decode b_MO_isEnd 23 = .ok (.iload_n 2, 1) := by decide +kernel
theorem d_MO_isEnd_24 : decode b_MO_isEnd 24 = .ok (.iaload, 1) := by decide +kernel
theorem d_MO_isEnd_25 : decode b_MO_isEnd 25 = .ok (.if_icmp .ne 16, 3) := by decide +kernel
theorem d_MO_isEnd_28 : decode b_MO_isEnd 28 = .ok (.aload_n 0, 1) := by decide +kernel
theorem d_MO_isEnd_29 : decode b_MO_isEnd 29 = .ok (.getfield 31, 3) := by decide +kernel
theorem d_MO_isEnd_32 : decode b_MO_isEnd 32 = .ok (.iload_n 2, 1) := by decide +kernel
theorem d_MO_isEnd_33 : decode b_MO_isEnd 33 = .ok (.iaload, 1) := by decide +kernel
theorem d_MO_isEnd_34 : decode b_MO_isEnd 34 = .ok (.ifCond .ne 7, 3) := by decide +kernel
theorem d_MO_isEnd_37 : decode b_MO_isEnd 37 = .ok (.iconst 1, 1) := by decide +kernel
theorem d_MO_isEnd_38 : decode b_MO_isEnd 38 = .ok (.goto 4, 3) := by decide +kernel
theorem d_MO_isEnd_41 : decode b_MO_isEnd 41 = .ok (.iconst 0, 1) := by decide +kernel
theorem d_MO_isEnd_42 : decode b_MO_isEnd 42 = .ok (.istore_n 1, 1) := by decide +kernel
theorem d_MO_isEnd_43 : decode b_MO_isEnd 43 = .ok (.iinc 2 1, 3) := by decide +kernel
theorem d_MO_isEnd_46 : decode b_MO_isEnd 46 = .ok (.goto (-42), 3) := by decide +kernel
theorem d_MO_isEnd_49 : decode b_MO_isEnd 49 = .ok (.iload_n 1, 1) := by decide +kernel
theorem d_MO_isEnd_50 : decode b_MO_isEnd 50 = .ok (.ireturn, 1) := by decide +kernel
theorem d_MO_outcomeNow_0 : decode b_MO_outcomeNow 0 = .ok (.lconst 0, 1) := by decide +kernel
theorem d_MO_outcomeNow_1 : decode b_MO_outcomeNow 1 = .ok (.lstore_n 1, 1) := by decide +kernel
theorem d_MO_outcomeNow_2 : decode b_MO_outcomeNow 2 = .ok (.iconst 0, 1) := by decide +kernel
theorem d_MO_outcomeNow_3 : decode b_MO_outcomeNow 3 = .ok (.istore_n 3, 1) := by decide +kernel
theorem d_MO_outcomeNow_4 : decode b_MO_outcomeNow 4 = .ok (.iload_n 3, 1) := by decide +kernel
theorem d_MO_outcomeNow_5 : decode b_MO_outcomeNow 5 = .ok (.bipush 16, 2) := by decide +kernel
theorem d_MO_outcomeNow_7 : decode b_MO_outcomeNow 7 = .ok (.if_icmp .ge 23, 3) := by decide +kernel
theorem d_MO_outcomeNow_10 : decode b_MO_outcomeNow 10 = .ok (.ldc2_w 141, 3) := by decide +kernel
theorem d_MO_outcomeNow_13 : decode b_MO_outcomeNow 13 = .ok (.lload_n 1, 1) := by decide +kernel
theorem d_MO_outcomeNow_14 : decode b_MO_outcomeNow 14 = .ok (.lmul, 1) := by decide +kernel
theorem d_MO_outcomeNow_15 : decode b_MO_outcomeNow 15 = .ok (.aload_n 0, 1) := by decide +kernel
theorem d_MO_outcomeNow_16 : decode b_MO_outcomeNow 16 = .ok (.getfield 25, 3) := by decide +kernel
theorem d_MO_outcomeNow_19 : decode b_MO_outcomeNow 19 = .ok (.iload_n 3, 1) := by decide +kernel
theorem d_MO_outcomeNow_20 : decode b_MO_outcomeNow 20 = .ok (.iaload, 1) := by decide +kernel
theorem d_MO_outcomeNow_21 : decode b_MO_outcomeNow 21 = .ok (.i2l, 1) := by decide +kernel
theorem d_MO_outcomeNow_22 : decode b_MO_outcomeNow 22 = .ok (.ladd, 1) := by decide +kernel
theorem d_MO_outcomeNow_23 : decode b_MO_outcomeNow 23 = .ok (.lstore_n 1, 1) := by decide +kernel
theorem d_MO_outcomeNow_24 : decode b_MO_outcomeNow 24 = .ok (.iinc 3 1, 3) := by decide +kernel
theorem d_MO_outcomeNow_27 : decode b_MO_outcomeNow 27 = .ok (.goto (-23), 3) := by decide +kernel
theorem d_MO_outcomeNow_30 : decode b_MO_outcomeNow 30 = .ok (.iconst 0, 1) := by decide +kernel
theorem d_MO_outcomeNow_31 : decode b_MO_outcomeNow 31 = .ok (.istore_n 3, 1) := by decide +kernel
theorem d_MO_outcomeNow_32 : decode b_MO_outcomeNow 32 = .ok (.iload_n 3, 1) := by decide +kernel
theorem d_MO_outcomeNow_33 : decode b_MO_outcomeNow 33 = .ok (.iconst 4, 1) := by decide +kernel
theorem d_MO_outcomeNow_34 : decode b_MO_outcomeNow 34 = .ok (.if_icmp .ge 23, 3) := by decide +kernel
theorem d_MO_outcomeNow_37 : decode b_MO_outcomeNow 37 = .ok (.ldc2_w 141, 3) := by decide +kernel
theorem d_MO_outcomeNow_40 : decode b_MO_outcomeNow 40 = .ok (.lload_n 1, 1) := by decide +kernel
theorem d_MO_outcomeNow_41 : decode b_MO_outcomeNow 41 = .ok (.lmul, 1) := by decide +kernel
theorem d_MO_outcomeNow_42 : decode b_MO_outcomeNow 42 = .ok (.aload_n 0, 1) := by decide +kernel
theorem d_MO_outcomeNow_43 : decode b_MO_outcomeNow 43 = .ok (.getfield 28, 3) := by decide +kernel
theorem d_MO_outcomeNow_46 : decode b_MO_outcomeNow 46 = .ok (.iload_n 3, 1) := by decide +kernel
theorem d_MO_outcomeNow_47 : decode b_MO_outcomeNow 47 = .ok (.iaload, 1) := by decide +kernel
theorem d_MO_outcomeNow_48 : decode b_MO_outcomeNow 48 = .ok (.i2l, 1) := by decide +kernel
theorem d_MO_outcomeNow_49 : decode b_MO_outcomeNow 49 = .ok (.ladd, 1) := by decide +kernel
theorem d_MO_outcomeNow_50 : decode b_MO_outcomeNow 50 = .ok (.lstore_n 1, 1) := by decide +kernel
theorem d_MO_outcomeNow_51 : decode b_MO_outcomeNow 51 = .ok (.iinc 3 1, 3) := by decide +kernel
theorem d_MO_outcomeNow_54 : decode b_MO_outcomeNow 54 = .ok (.goto (-22), 3) := by decide +kernel
theorem d_MO_outcomeNow_57 : decode b_MO_outcomeNow 57 = .ok (.lload_n 1, 1) := by decide +kernel
theorem d_MO_outcomeNow_58 : decode b_MO_outcomeNow 58 = .ok (.lreturn, 1) := by decide +kernel
theorem d_MO_addEnd_0 : decode b_MO_addEnd 0 = .ok (.aload_n 0, 1) := by decide +kernel
theorem d_MO_addEnd_1 : decode b_MO_addEnd 1 = .ok (.invokevirtual 143, 3) := by decide +kernel
theorem d_MO_addEnd_4 : decode b_MO_addEnd 4 = .ok (.lstore_n 3, 1) := by decide +kernel
theorem d_MO_addEnd_5 : decode b_MO_addEnd 5 = .ok (.sipush 12001, 3) := by decide +kernel
theorem d_MO_addEnd_8 : decode b_MO_addEnd 8 = .ok (.iload_n 1, 1) := by decide +kernel
theorem d_MO_addEnd_9 : decode b_MO_addEnd 9 = .ok (.imul, 1) := by decide +kernel
theorem d_MO_addEnd_10 : decode b_MO_addEnd 10 = .ok (.aload_n 0, 1) := by decide +kernel
theorem d_MO_addEnd_11 : decode b_MO_addEnd 11 = .ok (.getfield 53, 3) := by decide +kernel
theorem d_MO_addEnd_14 : decode b_MO_addEnd 14 = .ok (.iload_n 1, 1) := by decide +kernel
theorem d_MO_addEnd_15 : decode b_MO_addEnd 15 = .ok (.iaload, 1) := by decide +kernel
theorem d_MO_addEnd_16 : decode b_MO_addEnd 16 = .ok (.iadd, 1) := by decide +kernel
theorem d_MO_addEnd_17 : decode b_MO_addEnd 17 = .ok (.istore 5, 2) := by decide +kernel
theorem d_MO_addEnd_19 : decode b_MO_addEnd 19 = .ok (.iload 5, 2) := by decide +kernel
theorem d_MO_addEnd_21 : decode b_MO_addEnd 21 = .ok (.sipush 12001, 3) := by decide +kernel
theorem d_MO_addEnd_24 : decode b_MO_addEnd 24 = .ok (.iload_n 1, 1) := by decide +kernel
theorem d_MO_addEnd_25 : decode b_MO_addEnd 25 = .ok (.imul, 1) := by decide +kernel
theorem d_MO_addEnd_26 : decode b_MO_addEnd 26 = .ok (.if_icmp .le 55, 3) := by decide +kernel
theorem d_MO_addEnd_29 : decode b_MO_addEnd 29 = .ok (.aload_n 0, 1) := by decide +kernel
theorem d_MO_addEnd_30 : decode b_MO_addEnd 30 = .ok (.getfield 76, 3) := by decide +kernel
theorem d_MO_addEnd_33 : decode b_MO_addEnd 33 = .ok (.iload 5, 2) := by decide +kernel
theorem d_MO_addEnd_35 : decode b_MO_addEnd 35 = .ok (.iconst 1, 1) := by decide +kernel
theorem d_MO_addEnd_36 : decode b_MO_addEnd 36 = .ok (.isub, 1) := by decide +kernel
theorem d_MO_addEnd_37 : decode b_MO_addEnd 37 = .ok (.laload, 1) := by decide +kernel
theorem d_MO_addEnd_38 : decode b_MO_addEnd 38 = .ok (.lload_n 3, 1) := by decide +kernel
theorem d_MO_addEnd_39 : decode b_MO_addEnd 39 = .ok (.lcmp, 1) := by decide +kernel
theorem d_MO_addEnd_40 : decode b_MO_addEnd 40 = .ok (.ifCond .le 41, 3) := by decide +kernel
theorem d_MO_addEnd_43 : decode b_MO_addEnd 43 = .ok (.aload_n 0, 1) := by decide +kernel
theorem d_MO_addEnd_44 : decode b_MO_addEnd 44 = .ok (.getfield 76, 3) := by decide +kernel
theorem d_MO_addEnd_47 : decode b_MO_addEnd 47 = .ok (.iload 5, 2) := by decide +kernel
theorem d_MO_addEnd_49 : decode b_MO_addEnd 49 = .ok (.aload_n 0, 1) := by decide +kernel
theorem d_MO_addEnd_50 : decode b_MO_addEnd 50 = .ok (.getfield 76, 3) := by decide +kernel
theorem d_MO_addEnd_53 : decode b_MO_addEnd 53 = .ok (.iload 5, 2) := by decide +kernel
theorem d_MO_addEnd_55 : decode b_MO_addEnd 55 = .ok (.iconst 1, 1) := by decide +kernel
theorem d_MO_addEnd_56 : decode b_MO_addEnd 56 = .ok (.isub, 1) := by decide +kernel
theorem d_MO_addEnd_57 : decode b_MO_addEnd 57 = .ok (.laload, 1) := by decide +kernel
theorem d_MO_addEnd_58 : decode b_MO_addEnd 58 = .ok (.lastore, 1) := by decide +kernel
theorem d_MO_addEnd_59 : decode b_MO_addEnd 59 = .ok (.aload_n 0, 1) := by decide +kernel
theorem d_MO_addEnd_60 : decode b_MO_addEnd 60 = .ok (.getfield 73, 3) := by decide +kernel
theorem d_MO_addEnd_63 : decode b_MO_addEnd 63 = .ok (.iload 5, 2) := by decide +kernel
theorem d_MO_addEnd_65 : decode b_MO_addEnd 65 = .ok (.aload_n 0, 1) := by decide +kernel
theorem d_MO_addEnd_66 : decode b_MO_addEnd 66 = .ok (.getfield 73, 3) := by decide +kernel
theorem d_MO_addEnd_69 : decode b_MO_addEnd 69 = .ok (.iload 5, 2) := by decide +kernel
theorem d_MO_addEnd_71 : decode b_MO_addEnd 71 = .ok (.iconst 1, 1) := by decide +kernel
theorem d_MO_addEnd_72 : decode b_MO_addEnd 72 = .ok (.isub, 1) := by decide +kernel
theorem d_MO_addEnd_73 : decode b_MO_addEnd 73 = .ok (.iaload, 1) := by decide +kernel
theorem d_MO_addEnd_74 : decode b_MO_addEnd 74 = .ok (.iastore, 1) := by decide +kernel
theorem d_MO_addEnd_75 : decode b_MO_addEnd 75 = .ok (.iinc 5 (-1), 3) := by decide +kernel
theorem d_MO_addEnd_78 : decode b_MO_addEnd 78 = .ok (.goto (-59), 3) := by decide +kernel
theorem d_MO_addEnd_81 : decode b_MO_addEnd 81 = .ok (.aload_n 0, 1) := by decide +kernel
theorem d_MO_addEnd_82 : decode b_MO_addEnd 82 = .ok (.getfield 76, 3) := by decide +kernel
theorem d_MO_addEnd_85 : decode b_MO_addEnd 85 = .ok (.iload 5, 2) := by decide +kernel
theorem d_MO_addEnd_87 : decode b_MO_addEnd 87 = .ok (.lload_n 3, 1) := by decide +kernel
theorem d_MO_addEnd_88 : decode b_MO_addEnd 88 = .ok (.lastore, 1) := by decide +kernel
theorem d_MO_addEnd_89 : decode b_MO_addEnd 89 = .ok (.aload_n 0, 1) := by decide +kernel
theorem d_MO_addEnd_90 : decode b_MO_addEnd 90 = .ok (.getfield 73, 3) := by decide +kernel
theorem d_MO_addEnd_93 : decode b_MO_addEnd 93 = .ok (.iload 5, 2) := by decide +kernel
theorem d_MO_addEnd_95 : decode b_MO_addEnd 95 = .ok (.iload_n 2, 1) := by decide +kernel
theorem d_MO_addEnd_96 : decode b_MO_addEnd 96 = .ok (.iastore, 1) := by decide +kernel
theorem d_MO_addEnd_97 : decode b_MO_addEnd 97 = .ok (.aload_n 0, 1) := by decide +kernel
theorem d_MO_addEnd_98 : decode b_MO_addEnd 98 = .ok (.getfield 53, 3) := by decide +kernel
theorem d_MO_addEnd_101 : decode b_MO_addEnd 101 = .ok (.iload_n 1, 1) := by decide +kernel
theorem d_MO_addEnd_102 : decode b_MO_addEnd 102 = .ok (.dup2, 1) := by decide +kernel
theorem d_MO_addEnd_103 : decode b_MO_addEnd 103 = .ok (.iaload, 1) := by decide +kernel
theorem d_MO_addEnd_104 : decode b_MO_addEnd 104 = .ok (.iconst 1, 1) := by decide +kernel
theorem d_MO_addEnd_105 : decode b_MO_addEnd 105 = .ok (.iadd, 1) := by decide +kernel
theorem d_MO_addEnd_106 : decode b_MO_addEnd 106 = .ok (.iastore, 1) := by decide +kernel
theorem d_MO_addEnd_107 : decode b_MO_addEnd 107 = .ok (.return_, 1) := by decide +kernel
theorem d_MO_goThrough_0 : decode b_MO_goThrough 0 = .ok (.iconst 0, 1) := by decide +kernel
theorem d_MO_goThrough_1 : decode b_MO_goThrough 1 = .ok (.istore_n 3, 1) := by decide +kernel
theorem d_MO_goThrough_2 : decode b_MO_goThrough 2 = .ok (.iconst 0, 1) := by decide +kernel
theorem d_MO_goThrough_3 : decode b_MO_goThrough 3 = .ok (.istore 4, 2) := by decide +kernel
theorem d_MO_goThrough_5 : decode b_MO_goThrough 5 = .ok (.iload 4, 2) := by decide +kernel
theorem d_MO_goThrough_7 : decode b_MO_goThrough 7 = .ok (.bipush 24, 2) := by decide +kernel
theorem d_MO_goThrough_9 : decode b_MO_goThrough 9 = .ok (.if_icmp .ge 105, 3) := by decide +kernel
theorem d_MO_goThrough_12 : decode b_MO_goThrough 12 = .ok (.aload_n 0, 1) := by decide +kernel
theorem d_MO_goThrough_13 : decode b_MO_goThrough 13 = .ok (.getfield 44, 3) := by decide +kernel
theorem d_MO_goThrough_16 : decode b_MO_goThrough 16 = .ok (.iload_n 1, 1) := by decide +kernel
theorem d_MO_goThrough_17 : decode b_MO_goThrough 17 = .ok (.baload, 1) := by decide +kernel
theorem d_MO_goThrough_18 : decode b_MO_goThrough 18 = .ok (.ifCond .ne 96, 3) := by decide +kernel
theorem d_MO_goThrough_21 : decode b_MO_goThrough 21 = .ok (.aload_n 0, 1) := by decide +kernel
theorem d_MO_goThrough_22 : decode b_MO_goThrough 22 = .ok (.aload_n 0, 1) := by decide +kernel
theorem d_MO_goThrough_23 : decode b_MO_goThrough 23 = .ok (.getfield 57, 3) := by decide +kernel
theorem d_MO_goThrough_26 : decode b_MO_goThrough 26 = .ok (.sipush 12001, 3) := by decide +kernel
theorem d_MO_goThrough_29 : decode b_MO_goThrough 29 = .ok (.iload_n 1, 1) := by decide +kernel
theorem d_MO_goThrough_30 : decode b_MO_goThrough 30 = .ok (.imul, 1) := by decide +kernel
theorem d_MO_goThrough_31 : decode b_MO_goThrough 31 = .ok (.iload_n 2, 1) := by decide +kernel
theorem d_MO_goThrough_32 : decode b_MO_goThrough 32 = .ok (.iadd, 1) := by decide +kernel
theorem d_MO_goThrough_33 : decode b_MO_goThrough 33 = .ok (.laload, 1) := by decide +kernel
theorem d_MO_goThrough_34 : decode b_MO_goThrough 34 = .ok (.aload_n 0, 1) := by decide +kernel
theorem d_MO_goThrough_35 : decode b_MO_goThrough 35 = .ok (.getfield 61, 3) := by decide +kernel
theorem d_MO_goThrough_38 : decode b_MO_goThrough 38 = .ok (.sipush 12001, 3) := by decide +kernel
theorem d_MO_goThrough_41 : decode b_MO_goThrough 41 = .ok (.iload_n 1, 1) := by decide +kernel
theorem d_MO_goThrough_42 : decode b_MO_goThrough 42 = .ok (.imul, 1) := by decide +kernel
theorem d_MO_goThrough_43 : decode b_MO_goThrough 43 = .ok (.iload_n 2, 1) := by decide +kernel
theorem d_MO_goThrough_44 : decode b_MO_goThrough 44 = .ok (.iadd, 1) := by decide +kernel
theorem d_MO_goThrough_45 : decode b_MO_goThrough 45 = .ok (.laload, 1) := by decide +kernel
theorem d_MO_goThrough_46 : decode b_MO_goThrough 46 = .ok (.invokevirtual 146, 3) := by decide +kernel
theorem d_MO_goThrough_49 : decode b_MO_goThrough 49 = .ok (.aload_n 0, 1) := by decide +kernel
theorem d_MO_goThrough_50 : decode b_MO_goThrough 50 = .ok (.iload_n 1, 1) := by decide +kernel
theorem d_MO_goThrough_51 : decode b_MO_goThrough 51 = .ok (.iload 4, 2) := by decide +kernel
theorem d_MO_goThrough_53 : decode b_MO_goThrough 53 = .ok (.invokevirtual 150, 3) := by decide +kernel
theorem d_MO_goThrough_56 : decode b_MO_goThrough 56 = .ok (.ifCond .eq 52, 3) := by decide +kernel
theorem d_MO_goThrough_59 : decode b_MO_goThrough 59 = .ok (.iinc 3 1, 3) := by decide +kernel
theorem d_MO_goThrough_62 : decode b_MO_goThrough 62 = .ok (.aload_n 0, 1) := by decide +kernel
theorem d_MO_goThrough_63 : decode b_MO_goThrough 63 = .ok (.iload_n 1, 1) := by decide +kernel
theorem d_MO_goThrough_64 : decode b_MO_goThrough 64 = .ok (.aload_n 0, 1) := by decide +kernel
theorem d_MO_goThrough_65 : decode b_MO_goThrough 65 = .ok (.invokevirtual 134, 3) := by decide +kernel
theorem d_MO_goThrough_68 : decode b_MO_goThrough 68 = .ok (.aload_n 0, 1) := by decide +kernel
theorem d_MO_goThrough_69 : decode b_MO_goThrough 69 = .ok (.invokevirtual 138, 3) := by decide +kernel
theorem d_MO_goThrough_72 : decode b_MO_goThrough 72 = .ok (.invokevirtual 153, 3) := by decide +kernel
theorem d_MO_goThrough_75 : decode b_MO_goThrough 75 = .ok (.ifCond .ge 33, 3) := by decide +kernel
theorem d_MO_goThrough_78 : decode b_MO_goThrough 78 = .ok (.aload_n 0, 1) := by decide +kernel
theorem d_MO_goThrough_79 : decode b_MO_goThrough 79 = .ok (.getfield 47, 3) := by decide +kernel
theorem d_MO_goThrough_82 : decode b_MO_goThrough 82 = .ok (.iload_n 1, 1) := by decide +kernel
theorem d_MO_goThrough_83 : decode b_MO_goThrough 83 = .ok (.iaload, 1) := by decide +kernel
theorem d_MO_goThrough_84 : decode b_MO_goThrough 84 = .ok (.sipush 12000, 3) := by decide +kernel
theorem d_MO_goThrough_87 : decode b_MO_goThrough 87 = .ok (.if_icmp .ne 13, 3) := by decide +kernel
theorem d_MO_goThrough_90 : decode b_MO_goThrough 90 = .ok (.aload_n 0, 1) := by decide +kernel
theorem d_MO_goThrough_91 : decode b_MO_goThrough 91 = .ok (.getfield 44, 3) := by decide +kernel
theorem d_MO_goThrough_94 : decode b_MO_goThrough 94 = .ok (.iload_n 1, 1) := by decide +kernel
theorem d_MO_goThrough_95 : decode b_MO_goThrough 95 = .ok (.iconst 1, 1) := by decide +kernel
theorem d_MO_goThrough_96 : decode b_MO_goThrough 96 = .ok (.bastore, 1) := by decide +kernel
theorem d_MO_goThrough_97 : decode b_MO_goThrough 97 = .ok (.goto 11, 3) := by decide +kernel
theorem d_MO_goThrough_100 : decode b_MO_goThrough 100 = .ok (.aload_n 0, 1) := by decide +kernel
theorem d_MO_goThrough_101 : decode b_MO_goThrough 101 = .ok (.iload_n 1, 1) := by decide +kernel
theorem d_MO_goThrough_102 : decode b_MO_goThrough 102 = .ok (.iload_n 2, 1) := by decide +kernel
theorem d_MO_goThrough_103 : decode b_MO_goThrough 103 = .ok (.iload 4, 2) := by decide +kernel
theorem d_MO_goThrough_105 : decode b_MO_goThrough 105 = .ok (.invokevirtual 157, 3) := by decide +kernel
theorem d_MO_goThrough_108 : decode b_MO_goThrough 108 = .ok (.iinc 4 1, 3) := by decide +kernel
theorem d_MO_goThrough_111 : decode b_MO_goThrough 111 = .ok (.goto (-106), 3) := by decide +kernel
theorem d_MO_goThrough_114 : decode b_MO_goThrough 114 = .ok (.aload_n 0, 1) := by decide +kernel
theorem d_MO_goThrough_115 : decode b_MO_goThrough 115 = .ok (.aload_n 0, 1) := by decide +kernel
theorem d_MO_goThrough_116 : decode b_MO_goThrough 116 = .ok (.getfield 57, 3) := by decide +kernel
theorem d_MO_goThrough_119 : decode b_MO_goThrough 119 = .ok (.sipush 12001, 3) := by decide +kernel
theorem d_MO_goThrough_122 : decode b_MO_goThrough 122 = .ok (.iload_n 1, 1) := by decide +kernel
theorem d_MO_goThrough_123 : decode b_MO_goThrough 123 = .ok (.imul, 1) := by decide +kernel
theorem d_MO_goThrough_124 : decode b_MO_goThrough 124 = .ok (.iload_n 2, 1) := by decide +kernel
theorem d_MO_goThrough_125 : decode b_MO_goThrough 125 = .ok (.iadd, 1) := by decide +kernel
theorem d_MO_goThrough_126 : decode b_MO_goThrough 126 = .ok (.laload, 1) := by decide +kernel
theorem d_MO_goThrough_127 : decode b_MO_goThrough 127 = .ok (.aload_n 0, 1) := by decide +kernel
theorem d_MO_goThrough_128 : decode b_MO_goThrough 128 = .ok (.getfield 61, 3) := by decide +kernel
theorem d_MO_goThrough_131 : decode b_MO_goThrough 131 = .ok (.sipush 12001, 3) := by decide +kernel
theorem d_MO_goThrough_134 : decode b_MO_goThrough 134 = .ok (.iload_n 1, 1) := by decide +kernel
theorem d_MO_goThrough_135 : decode b_MO_goThrough 135 = .ok (.imul, 1) := by decide +kernel
theorem d_MO_goThrough_136 : decode b_MO_goThrough 136 = .ok (.iload_n 2, 1) := by decide +kernel
theorem d_MO_goThrough_137 : decode b_MO_goThrough 137 = .ok (.iadd, 1) := by decide +kernel
theorem d_MO_goThrough_138 : decode b_MO_goThrough 138 = .ok (.laload, 1) := by decide +kernel
theorem d_MO_goThrough_139 : decode b_MO_goThrough 139 = .ok (.invokevirtual 146, 3) := by decide +kernel
theorem d_MO_goThrough_142 : decode b_MO_goThrough 142 = .ok (.aload_n 0, 1) := by decide +kernel
theorem d_MO_goThrough_143 : decode b_MO_goThrough 143 = .ok (.invokevirtual 161, 3) := by decide +kernel
theorem d_MO_goThrough_146 : decode b_MO_goThrough 146 = .ok (.ifCond .eq 12, 3) := by decide +kernel
theorem d_MO_goThrough_149 : decode b_MO_goThrough 149 = .ok (.aload_n 0, 1) := by decide +kernel
theorem d_MO_goThrough_150 : decode b_MO_goThrough 150 = .ok (.iload_n 1, 1) := by decide +kernel
theorem d_MO_goThrough_151 : decode b_MO_goThrough 151 = .ok (.iload_n 2, 1) := by decide +kernel
theorem d_MO_goThrough_152 : decode b_MO_goThrough 152 = .ok (.invokevirtual 165, 3) := by decide +kernel
theorem d_MO_goThrough_155 : decode b_MO_goThrough 155 = .ok (.goto 17, 3) := by decide +kernel
theorem d_MO_goThrough_158 : decode b_MO_goThrough 158 = .ok (.iload_n 3, 1) := by decide +kernel
theorem d_MO_goThrough_159 : decode b_MO_goThrough 159 = .ok (.ifCond .ne 13, 3) := by decide +kernel
theorem d_MO_goThrough_162 : decode b_MO_goThrough 162 = .ok (.aload_n 0, 1) := by decide +kernel
theorem d_MO_goThrough_163 : decode b_MO_goThrough 163 = .ok (.getfield 50, 3) := by decide +kernel
theorem d_MO_goThrough_166 : decode b_MO_goThrough 166 = .ok (.iload_n 1, 1) := by decide +kernel
theorem d_MO_goThrough_167 : decode b_MO_goThrough 167 = .ok (.dup2, 1) := by decide +kernel
theorem d_MO_goThrough_168 : decode b_MO_goThrough 168 = .ok (.iaload, 1) := by decide +kernel
theorem d_MO_goThrough_169 : decode b_MO_goThrough 169 = .ok (.iconst 1, 1) := by decide +kernel
theorem d_MO_goThrough_170 : decode b_MO_goThrough 170 = .ok (.iadd, 1) := by decide +kernel
theorem d_MO_goThrough_171 : decode b_MO_goThrough 171 = .ok (.iastore, 1) := by decide +kernel
theorem d_MO_goThrough_172 : decode b_MO_goThrough 172 = .ok (.return_, 1) := by decide +kernel
theorem d_MO_explore_0 : decode b_MO_explore 0 = .ok (.aload_n 0, 1) := by decide +kernel
theorem d_MO_explore_1 : decode b_MO_explore 1 = .ok (.getfield 40, 3) := by decide +kernel
theorem d_MO_explore_4 : decode b_MO_explore 4 = .ok (.iload_n 1, 1) := by decide +kernel
theorem d_MO_explore_5 : decode b_MO_explore 5 = .ok (.iconst 1, 1) := by decide +kernel
theorem d_MO_explore_6 : decode b_MO_explore 6 = .ok (.bastore, 1) := by decide +kernel
theorem d_MO_explore_7 : decode b_MO_explore 7 = .ok (.aload_n 0, 1) := by decide +kernel
theorem d_MO_explore_8 : decode b_MO_explore 8 = .ok (.getfield 44, 3) := by decide +kernel
theorem d_MO_explore_11 : decode b_MO_explore 11 = .ok (.iload_n 1, 1) := by decide +kernel
theorem d_MO_explore_12 : decode b_MO_explore 12 = .ok (.iconst 0, 1) := by decide +kernel
theorem d_MO_explore_13 : decode b_MO_explore 13 = .ok (.bastore, 1) := by decide +kernel
theorem d_MO_explore_14 : decode b_MO_explore 14 = .ok (.aload_n 0, 1) := by decide +kernel
theorem d_MO_explore_15 : decode b_MO_explore 15 = .ok (.getfield 47, 3) := by decide +kernel
theorem d_MO_explore_18 : decode b_MO_explore 18 = .ok (.iload_n 1, 1) := by decide +kernel
theorem d_MO_explore_19 : decode b_MO_explore 19 = .ok (.iconst 0, 1) := by decide +kernel
theorem d_MO_explore_20 : decode b_MO_explore 20 = .ok (.iastore, 1) := by decide +kernel
theorem d_MO_explore_21 : decode b_MO_explore 21 = .ok (.aload_n 0, 1) := by decide +kernel
theorem d_MO_explore_22 : decode b_MO_explore 22 = .ok (.getfield 50, 3) := by decide +kernel
theorem d_MO_explore_25 : decode b_MO_explore 25 = .ok (.iload_n 1, 1) := by decide +kernel
theorem d_MO_explore_26 : decode b_MO_explore 26 = .ok (.iconst 0, 1) := by decide +kernel
theorem d_MO_explore_27 : decode b_MO_explore 27 = .ok (.iastore, 1) := by decide +kernel
theorem d_MO_explore_28 : decode b_MO_explore 28 = .ok (.aload_n 0, 1) := by decide +kernel
theorem d_MO_explore_29 : decode b_MO_explore 29 = .ok (.getfield 53, 3) := by decide +kernel
theorem d_MO_explore_32 : decode b_MO_explore 32 = .ok (.iload_n 1, 1) := by decide +kernel
theorem d_MO_explore_33 : decode b_MO_explore 33 = .ok (.iconst 0, 1) := by decide +kernel
theorem d_MO_explore_34 : decode b_MO_explore 34 = .ok (.iastore, 1) := by decide +kernel
theorem d_MO_explore_35 : decode b_MO_explore 35 = .ok (.iconst 0, 1) := by decide +kernel
theorem d_MO_explore_36 : decode b_MO_explore 36 = .ok (.istore_n 2, 1) := by decide +kernel
theorem d_MO_explore_37 : decode b_MO_explore 37 = .ok (.iload_n 2, 1) := by decide +kernel
theorem d_MO_explore_38 : decode b_MO_explore 38 = .ok (.sipush 4099, 3) := by decide +kernel
theorem d_MO_explore_41 : decode b_MO_explore 41 = .ok (.if_icmp .ge 16, 3) := by decide +kernel
theorem d_MO_explore_44 : decode b_MO_explore 44 = .ok (.aload_n 0, 1) := by decide +kernel
theorem d_MO_explore_45 : decode b_MO_explore 45 = .ok (.getfield 85, 3) := by decide +kernel
theorem d_MO_explore_48 : decode b_MO_explore 48 = .ok (.iload_n 2, 1) := by decide +kernel
theorem d_MO_explore_49 : decode b_MO_explore 49 = .ok (.iconst (-1), 1) := by decide +kernel
theorem d_MO_explore_50 : decode b_MO_explore 50 = .ok (.iastore, 1) := by decide +kernel
theorem d_MO_explore_51 : decode b_MO_explore 51 = .ok (.iinc 2 1, 3) := by decide +kernel
theorem d_MO_explore_54 : decode b_MO_explore 54 = .ok (.goto (-17), 3) := by decide +kernel
theorem d_MO_explore_57 : decode b_MO_explore 57 = .ok (.sipush 256, 3) := by decide +kernel
theorem d_MO_explore_60 : decode b_MO_explore 60 = .ok (.iload_n 1, 1) := by decide +kernel
theorem d_MO_explore_61 : decode b_MO_explore 61 = .ok (.imul, 1) := by decide +kernel
theorem d_MO_explore_62 : decode b_MO_explore 62 = .ok (.istore_n 2, 1) := by decide +kernel
theorem d_MO_explore_63 : decode b_MO_explore 63 = .ok (.iload_n 2, 1) := by decide +kernel
theorem d_MO_explore_64 : decode b_MO_explore 64 = .ok (.sipush 256, 3) := by decide +kernel
theorem d_MO_explore_67 : decode b_MO_explore 67 = .ok (.iload_n 1, 1) := by decide +kernel
theorem d_MO_explore_68 : decode b_MO_explore 68 = .ok (.imul, 1) := by decide +kernel
theorem d_MO_explore_69 : decode b_MO_explore 69 = .ok (.sipush 256, 3) := by decide +kernel
theorem d_MO_explore_72 : decode b_MO_explore 72 = .ok (.iadd, 1) := by decide +kernel
theorem d_MO_explore_73 : decode b_MO_explore 73 = .ok (.if_icmp .ge 16, 3) := by decide +kernel
theorem d_MO_explore_76 : decode b_MO_explore 76 = .ok (.aload_n 0, 1) := by decide +kernel
theorem d_MO_explore_77 : decode b_MO_explore 77 = .ok (.getfield 79, 3) := by decide +kernel
theorem d_MO_explore_80 : decode b_MO_explore 80 = .ok (.iload_n 2, 1) := by decide +kernel
theorem d_MO_explore_81 : decode b_MO_explore 81 = .ok (.iconst 0, 1) := by decide +kernel
theorem d_MO_explore_82 : decode b_MO_explore 82 = .ok (.bastore, 1) := by decide +kernel
theorem d_MO_explore_83 : decode b_MO_explore 83 = .ok (.iinc 2 1, 3) := by decide +kernel
theorem d_MO_explore_86 : decode b_MO_explore 86 = .ok (.goto (-23), 3) := by decide +kernel
theorem d_MO_explore_89 : decode b_MO_explore 89 = .ok (.bipush 16, 2) := by decide +kernel
theorem d_MO_explore_91 : decode b_MO_explore 91 = .ok (.iload_n 1, 1) := by decide +kernel
theorem d_MO_explore_92 : decode b_MO_explore 92 = .ok (.imul, 1) := by decide +kernel
theorem d_MO_explore_93 : decode b_MO_explore 93 = .ok (.istore_n 2, 1) := by decide +kernel
theorem d_MO_explore_94 : decode b_MO_explore 94 = .ok (.iload_n 2, 1) := by decide +kernel
theorem d_MO_explore_95 : decode b_MO_explore 95 = .ok (.bipush 16, 2) := by decide +kernel
theorem d_MO_explore_97 : decode b_MO_explore 97 = .ok (.iload_n 1, 1) := by decide +kernel
theorem d_MO_explore_98 : decode b_MO_explore 98 = .ok (.imul, 1) := by decide +kernel
theorem d_MO_explore_99 : decode b_MO_explore 99 = .ok (.bipush 16, 2) := by decide +kernel
theorem d_MO_explore_101 : decode b_MO_explore 101 = .ok (.iadd, 1) := by decide +kernel
theorem d_MO_explore_102 : decode b_MO_explore 102 = .ok (.if_icmp .ge 16, 3) := by decide +kernel
theorem d_MO_explore_105 : decode b_MO_explore 105 = .ok (.aload_n 0, 1) := by decide +kernel
theorem d_MO_explore_106 : decode b_MO_explore 106 = .ok (.getfield 82, 3) := by decide +kernel
theorem d_MO_explore_109 : decode b_MO_explore 109 = .ok (.iload_n 2, 1) := by decide +kernel
theorem d_MO_explore_110 : decode b_MO_explore 110 = .ok (.iconst (-1), 1) := by decide +kernel
theorem d_MO_explore_111 : decode b_MO_explore 111 = .ok (.iastore, 1) := by decide +kernel
theorem d_MO_explore_112 : decode b_MO_explore 112 = .ok (.iinc 2 1, 3) := by decide +kernel
theorem d_MO_explore_115 : decode b_MO_explore 115 = .ok (.goto (-21), 3) := by decide +kernel
theorem d_MO_explore_118 : decode b_MO_explore 118 = .ok (.aload_n 0, 1) := by decide +kernel
theorem d_MO_explore_119 : decode b_MO_explore 119 = .ok (.lconst 0, 1) := by decide +kernel
theorem d_MO_explore_120 : decode b_MO_explore 120 = .ok (.lconst 0, 1) := by decide +kernel
theorem d_MO_explore_121 : decode b_MO_explore 121 = .ok (.invokevirtual 146, 3) := by decide +kernel
theorem d_MO_explore_124 : decode b_MO_explore 124 = .ok (.aload_n 0, 1) := by decide +kernel
theorem d_MO_explore_125 : decode b_MO_explore 125 = .ok (.iload_n 1, 1) := by decide +kernel
theorem d_MO_explore_126 : decode b_MO_explore 126 = .ok (.iconst (-1), 1) := by decide +kernel
theorem d_MO_explore_127 : decode b_MO_explore 127 = .ok (.iconst (-1), 1) := by decide +kernel
theorem d_MO_explore_128 : decode b_MO_explore 128 = .ok (.invokevirtual 157, 3) := by decide +kernel
theorem d_MO_explore_131 : decode b_MO_explore 131 = .ok (.iconst 0, 1) := by decide +kernel
theorem d_MO_explore_132 : decode b_MO_explore 132 = .ok (.istore_n 2, 1) := by decide +kernel
theorem d_MO_explore_133 : decode b_MO_explore 133 = .ok (.iload_n 2, 1) := by decide +kernel
theorem d_MO_explore_134 : decode b_MO_explore 134 = .ok (.aload_n 0, 1) := by decide +kernel
theorem d_MO_explore_135 : decode b_MO_explore 135 = .ok (.getfield 47, 3) := by decide +kernel
theorem d_MO_explore_138 : decode b_MO_explore 138 = .ok (.iload_n 1, 1) := by decide +kernel
theorem d_MO_explore_139 : decode b_MO_explore 139 = .ok (.iaload, 1) := by decide +kernel
theorem d_MO_explore_140 : decode b_MO_explore 140 = .ok (.if_icmp .ge 24, 3) := by decide +kernel
theorem d_MO_explore_143 : decode b_MO_explore 143 = .ok (.aload_n 0, 1) := by decide +kernel
theorem d_MO_explore_144 : decode b_MO_explore 144 = .ok (.getfield 44, 3) := by decide +kernel
theorem d_MO_explore_147 : decode b_MO_explore 147 = .ok (.iload_n 1, 1) := by decide +kernel
theorem d_MO_explore_148 : decode b_MO_explore 148 = .ok (.baload, 1) := by decide +kernel
theorem d_MO_explore_149 : decode b_MO_explore 149 = .ok (.ifCond .ne 15, 3) := by decide +kernel
theorem d_MO_explore_152 : decode b_MO_explore 152 = .ok (.aload_n 0, 1) := by decide +kernel
theorem d_MO_explore_153 : decode b_MO_explore 153 = .ok (.iload_n 1, 1) := by decide +kernel
theorem d_MO_explore_154 : decode b_MO_explore 154 = .ok (.iload_n 2, 1) := by decide +kernel
theorem d_MO_explore_155 : decode b_MO_explore 155 = .ok (.invokevirtual 169, 3) := by decide +kernel
theorem d_MO_explore_158 : decode b_MO_explore 158 = .ok (.iinc 2 1, 3) := by decide +kernel
theorem d_MO_explore_161 : decode b_MO_explore 161 = .ok (.goto (-28), 3) := by decide +kernel
theorem d_MO_explore_164 : decode b_MO_explore 164 = .ok (.return_, 1) := by decide +kernel
theorem d_MO_isThere_0 : decode b_MO_isThere 0 = .ok (.aload_n 0, 1) := by decide +kernel
theorem d_MO_isThere_1 : decode b_MO_isThere 1 = .ok (.iload_n 1, 1) := by decide +kernel
theorem d_MO_isThere_2 : decode b_MO_isThere 2 = .ok (.iconst 0, 1) := by decide +kernel
theorem d_MO_isThere_3 : decode b_MO_isThere 3 = .ok (.iconst 3, 1) := by decide +kernel
theorem d_MO_isThere_4 : decode b_MO_isThere 4 = .ok (.invokestatic 98, 3) := by decide +kernel
theorem d_MO_isThere_7 : decode b_MO_isThere 7 = .ok (.ifCond .eq 7, 3) := by decide +kernel
theorem d_MO_isThere_10 : decode b_MO_isThere 10 = .ok (.iconst 0, 1) := by decide +kernel
theorem d_MO_isThere_11 : decode b_MO_isThere 11 = .ok (.goto 4, 3) := by decide +kernel
theorem d_MO_isThere_14 : decode b_MO_isThere 14 = .ok (.iconst 1, 1) := by decide +kernel
theorem d_MO_isThere_15 : decode b_MO_isThere 15 = .ok (.putfield 94, 3) := by decide +kernel
theorem d_MO_isThere_18 : decode b_MO_isThere 18 = .ok (.aload_n 0, 1) := by decide +kernel
theorem d_MO_isThere_19 : decode b_MO_isThere 19 = .ok (.getfield 94, 3) := by decide +kernel
theorem d_MO_isThere_22 : decode b_MO_isThere 22 = .ok (.ifCond .le 5, 3) := by decide +kernel
theorem d_MO_isThere_25 : decode b_MO_isThere 25 = .ok (.iconst 0, 1) := by decide +kernel
theorem d_MO_isThere_26 : decode b_MO_isThere 26 = .ok (.ireturn, 1) := by decide +kernel
theorem d_MO_isThere_27 : decode b_MO_isThere 27 = .ok (.aload_n 0, 1) := by decide +kernel
theorem d_MO_isThere_28 : decode b_MO_isThere 28 = .ok (.getfield 40, 3) := by decide +kernel
theorem d_MO_isThere_31 : decode b_MO_isThere 31 = .ok (.iload_n 1, 1) := by decide +kernel
theorem d_MO_isThere_32 : decode b_MO_isThere 32 = .ok (.baload, 1) := by decide +kernel
theorem d_MO_isThere_33 : decode b_MO_isThere 33 = .ok (.ifCond .ne 8, 3) := by decide +kernel
theorem d_MO_isThere_36 : decode b_MO_isThere 36 = .ok (.aload_n 0, 1) := by decide +kernel
theorem d_MO_isThere_37 : decode b_MO_isThere 37 = .ok (.iload_n 1, 1) := by decide +kernel
theorem d_MO_isThere_38 : decode b_MO_isThere 38 = .ok (.invokevirtual 172, 3) := by decide +kernel
theorem d_MO_isThere_41 : decode b_MO_isThere 41 = .ok (.aload_n 0, 1) := by decide +kernel
theorem d_MO_isThere_42 : decode b_MO_isThere 42 = .ok (.aload_n 0, 1) := by decide +kernel
theorem d_MO_isThere_43 : decode b_MO_isThere 43 = .ok (.getfield 44, 3) := by decide +kernel
theorem d_MO_isThere_46 : decode b_MO_isThere 46 = .ok (.iload_n 1, 1) := by decide +kernel
theorem d_MO_isThere_47 : decode b_MO_isThere 47 = .ok (.baload, 1) := by decide +kernel
theorem d_MO_isThere_48 : decode b_MO_isThere 48 = .ok (.ifCond .eq 7, 3) := by decide +kernel
theorem d_MO_isThere_51 : decode b_MO_isThere 51 = .ok (.iconst 2, 1) := by decide +kernel
theorem d_MO_isThere_52 : decode b_MO_isThere 52 = .ok (.goto 4, 3) := by decide +kernel
theorem d_MO_isThere_55 : decode b_MO_isThere 55 = .ok (.iconst 0, 1) := by decide +kernel
theorem d_MO_isThere_56 : decode b_MO_isThere 56 = .ok (.putfield 94, 3) := by decide +kernel
theorem d_MO_isThere_59 : decode b_MO_isThere 59 = .ok (.aload_n 0, 1) := by decide +kernel
theorem d_MO_isThere_60 : decode b_MO_isThere 60 = .ok (.getfield 94, 3) := by decide +kernel
theorem d_MO_isThere_63 : decode b_MO_isThere 63 = .ok (.ifCond .ne 7, 3) := by decide +kernel
theorem d_MO_isThere_66 : decode b_MO_isThere 66 = .ok (.iconst 1, 1) := by decide +kernel
theorem d_MO_isThere_67 : decode b_MO_isThere 67 = .ok (.goto 4, 3) := by decide +kernel
theorem d_MO_isThere_70 : decode b_MO_isThere 70 = .ok (.iconst 0, 1) := by decide +kernel
theorem d_MO_isThere_71 : decode b_MO_isThere 71 = .ok (.ireturn, 1) := by decide +kernel
theorem d_MO_outcomes_0 : decode b_MO_outcomes 0 = .ok (.aload_n 0, 1) := by decide +kernel
theorem d_MO_outcomes_1 : decode b_MO_outcomes 1 = .ok (.iload_n 1, 1) := by decide +kernel
theorem d_MO_outcomes_2 : decode b_MO_outcomes 2 = .ok (.invokevirtual 176, 3) := by decide +kernel
theorem d_MO_outcomes_5 : decode b_MO_outcomes 5 = .ok (.ifCond .eq 12, 3) := by decide +kernel
theorem d_MO_outcomes_8 : decode b_MO_outcomes 8 = .ok (.aload_n 0, 1) := by decide +kernel
theorem d_MO_outcomes_9 : decode b_MO_outcomes 9 = .ok (.getfield 53, 3) := by decide +kernel
theorem d_MO_outcomes_12 : decode b_MO_outcomes 12 = .ok (.iload_n 1, 1) := by decide +kernel
theorem d_MO_outcomes_13 : decode b_MO_outcomes 13 = .ok (.iaload, 1) := by decide +kernel
theorem d_MO_outcomes_14 : decode b_MO_outcomes 14 = .ok (.goto 4, 3) := by decide +kernel
theorem d_MO_outcomes_17 : decode b_MO_outcomes 17 = .ok (.iconst 0, 1) := by decide +kernel
theorem d_MO_outcomes_18 : decode b_MO_outcomes 18 = .ok (.ireturn, 1) := by decide +kernel
theorem d_MO_outcome_0 : decode b_MO_outcome 0 = .ok (.aload_n 0, 1) := by decide +kernel
theorem d_MO_outcome_1 : decode b_MO_outcome 1 = .ok (.iload_n 1, 1) := by decide +kernel
theorem d_MO_outcome_2 : decode b_MO_outcome 2 = .ok (.invokevirtual 176, 3) := by decide +kernel
theorem d_MO_outcome_5 : decode b_MO_outcome 5 = .ok (.ifCond .ne 5, 3) := by decide +kernel
theorem d_MO_outcome_8 : decode b_MO_outcome 8 = .ok (.lconst 0, 1) := by decide +kernel
theorem d_MO_outcome_9 : decode b_MO_outcome 9 = .ok (.lreturn, 1) := by decide +kernel
theorem d_MO_outcome_10 : decode b_MO_outcome 10 = .ok (.iload_n 2, 1) := by decide +kernel
theorem d_MO_outcome_11 : decode b_MO_outcome 11 = .ok (.iconst 0, 1) := by decide +kernel
theorem d_MO_outcome_12 : decode b_MO_outcome 12 = .ok (.aload_n 0, 1) := by decide +kernel
theorem d_MO_outcome_13 : decode b_MO_outcome 13 = .ok (.getfield 53, 3) := by decide +kernel
theorem d_MO_outcome_16 : decode b_MO_outcome 16 = .ok (.iload_n 1, 1) := by decide +kernel
theorem d_MO_outcome_17 : decode b_MO_outcome 17 = .ok (.iaload, 1) := by decide +kernel
theorem d_MO_outcome_18 : decode b_MO_outcome 18 = .ok (.iconst 1, 1) := by decide +kernel
theorem d_MO_outcome_19 : decode b_MO_outcome 19 = .ok (.isub, 1) := by decide +kernel
theorem d_MO_outcome_20 : decode b_MO_outcome 20 = .ok (.invokestatic 98, 3) := by decide +kernel
theorem d_MO_outcome_23 : decode b_MO_outcome 23 = .ok (.ifCond .eq 16, 3) := by decide +kernel
theorem d_MO_outcome_26 : decode b_MO_outcome 26 = .ok (.aload_n 0, 1) := by decide +kernel
theorem d_MO_outcome_27 : decode b_MO_outcome 27 = .ok (.getfield 76, 3) := by decide +kernel
theorem d_MO_outcome_30 : decode b_MO_outcome 30 = .ok (.sipush 12001, 3) := by decide +kernel
theorem d_MO_outcome_33 : decode b_MO_outcome 33 = .ok (.iload_n 1, 1) := by decide +kernel
theorem d_MO_outcome_34 : decode b_MO_outcome 34 = .ok (.imul, 1) := by decide +kernel
theorem d_MO_outcome_35 : decode b_MO_outcome 35 = .ok (.iload_n 2, 1) := by decide +kernel
theorem d_MO_outcome_36 : decode b_MO_outcome 36 = .ok (.iadd, 1) := by decide +kernel
theorem d_MO_outcome_37 : decode b_MO_outcome 37 = .ok (.laload, 1) := by decide +kernel
theorem d_MO_outcome_38 : decode b_MO_outcome 38 = .ok (.lreturn, 1) := by decide +kernel
theorem d_MO_outcome_39 : decode b_MO_outcome 39 = .ok (.aload_n 0, 1) := by decide +kernel
theorem d_MO_outcome_40 : decode b_MO_outcome 40 = .ok (.iconst 3, 1) := by decide +kernel
theorem d_MO_outcome_41 : decode b_MO_outcome 41 = .ok (.putfield 94, 3) := by decide +kernel
theorem d_MO_outcome_44 : decode b_MO_outcome 44 = .ok (.lconst 0, 1) := by decide +kernel
theorem d_MO_outcome_45 : decode b_MO_outcome 45 = .ok (.lreturn, 1) := by decide +kernel
theorem d_MO_states_0 : decode b_MO_states 0 = .ok (.aload_n 0, 1) := by decide +kernel
theorem d_MO_states_1 : decode b_MO_states 1 = .ok (.iload_n 1, 1) := by decide +kernel
theorem d_MO_states_2 : decode b_MO_states 2 = .ok (.invokevirtual 176, 3) := by decide +kernel
theorem d_MO_states_5 : decode b_MO_states 5 = .ok (.ifCond .eq 12, 3) := by decide +kernel
theorem d_MO_states_8 : decode b_MO_states 8 = .ok (.aload_n 0, 1) := by decide +kernel
theorem d_MO_states_9 : decode b_MO_states 9 = .ok (.getfield 47, 3) := by decide +kernel
theorem d_MO_states_12 : decode b_MO_states 12 = .ok (.iload_n 1, 1) := by decide +kernel
theorem d_MO_states_13 : decode b_MO_states 13 = .ok (.iaload, 1) := by decide +kernel
theorem d_MO_states_14 : decode b_MO_states 14 = .ok (.goto 4, 3) := by decide +kernel
theorem d_MO_states_17 : decode b_MO_states 17 = .ok (.iconst 0, 1) := by decide +kernel
theorem d_MO_states_18 : decode b_MO_states 18 = .ok (.ireturn, 1) := by decide +kernel
theorem d_MO_row_0 : decode b_MO_row 0 = .ok (.aload_n 0, 1) := by decide +kernel
theorem d_MO_row_1 : decode b_MO_row 1 = .ok (.iload_n 1, 1) := by decide +kernel
theorem d_MO_row_2 : decode b_MO_row 2 = .ok (.invokevirtual 176, 3) := by decide +kernel
theorem d_MO_row_5 : decode b_MO_row 5 = .ok (.ifCond .ne 5, 3) := by decide +kernel
theorem d_MO_row_8 : decode b_MO_row 8 = .ok (.iconst 0, 1) := by decide +kernel
theorem d_MO_row_9 : decode b_MO_row 9 = .ok (.ireturn, 1) := by decide +kernel
theorem d_MO_row_10 : decode b_MO_row 10 = .ok (.iload_n 2, 1) := by decide +kernel
theorem d_MO_row_11 : decode b_MO_row 11 = .ok (.iconst 0, 1) := by decide +kernel
theorem d_MO_row_12 : decode b_MO_row 12 = .ok (.aload_n 0, 1) := by decide +kernel
theorem d_MO_row_13 : decode b_MO_row 13 = .ok (.getfield 53, 3) := by decide +kernel
theorem d_MO_row_16 : decode b_MO_row 16 = .ok (.iload_n 1, 1) := by decide +kernel
theorem d_MO_row_17 : decode b_MO_row 17 = .ok (.iaload, 1) := by decide +kernel
theorem d_MO_row_18 : decode b_MO_row 18 = .ok (.iconst 1, 1) := by decide +kernel
theorem d_MO_row_19 : decode b_MO_row 19 = .ok (.isub, 1) := by decide +kernel
theorem d_MO_row_20 : decode b_MO_row 20 = .ok (.invokestatic 98, 3) := by decide +kernel
theorem d_MO_row_23 : decode b_MO_row 23 = .ok (.ifCond .eq 7, 3) := by decide +kernel
theorem d_MO_row_26 : decode b_MO_row 26 = .ok (.iload_n 3, 1) := by decide +kernel
theorem d_MO_row_27 : decode b_MO_row 27 = .ok (.ifCond .ge 9, 3) := by decide +kernel
