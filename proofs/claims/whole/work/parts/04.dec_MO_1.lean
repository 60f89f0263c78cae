theorem d_MO_bufferOf_1 : decode b_MO_bufferOf 1 = .ok (.iconst 3, 1) := by decide +kernel
theorem d_MO_bufferOf_2 : decode b_MO_bufferOf 2 = .ok (.if_icmp .ne 9, 3) := by decide +kernel
theorem d_MO_bufferOf_5 : decode b_MO_bufferOf 5 = .ok (.iload_n 2, 1) := by decide +kernel
theorem d_MO_bufferOf_6 : decode b_MO_bufferOf 6 = .ok (.iconst 2, 1) := by decide +kernel
theorem d_MO_bufferOf_7 : decode b_MO_bufferOf 7 = .ok (.idiv, 1) := by decide +kernel
theorem d_MO_bufferOf_8 : decode b_MO_bufferOf 8 = .ok (.goto 4, 3) := by decide +kernel
theorem d_MO_bufferOf_11 : decode b_MO_bufferOf 11 = .ok (.iload_n 2, 1) := by decide +kernel
theorem d_MO_bufferOf_12 : decode b_MO_bufferOf 12 = .ok (.ireturn, 1) := by decide +kernel
theorem d_MO_seen_0 : decode b_MO_seen 0 = .ok (.aload_n 0, 1) := by decide +kernel
theorem d_MO_seen_1 : decode b_MO_seen 1 = .ok (.getfield 28, 3) := by decide +kernel
theorem d_MO_seen_4 : decode b_MO_seen 4 = .ok (.iload_n 2, 1) := by decide +kernel
theorem d_MO_seen_5 : decode b_MO_seen 5 = .ok (.iaload, 1) := by decide +kernel
theorem d_MO_seen_6 : decode b_MO_seen 6 = .ok (.istore_n 3, 1) := by decide +kernel
theorem d_MO_seen_7 : decode b_MO_seen 7 = .ok (.iconst 0, 1) := by decide +kernel
theorem d_MO_seen_8 : decode b_MO_seen 8 = .ok (.istore 4, 2) := by decide +kernel
theorem d_MO_seen_10 : decode b_MO_seen 10 = .ok (.iload 4, 2) := by decide +kernel
theorem d_MO_seen_12 : decode b_MO_seen 12 = .ok (.aload_n 0, 1) := by decide +kernel
theorem d_MO_seen_13 : decode b_MO_seen 13 = .ok (.getfield 31, 3) := by decide +kernel
theorem d_MO_seen_16 : decode b_MO_seen 16 = .ok (.iload_n 1, 1) := by decide +kernel
theorem d_MO_seen_17 : decode b_MO_seen 17 = .ok (.iaload, 1) := by decide +kernel
theorem d_MO_seen_18 : decode b_MO_seen 18 = .ok (.if_icmp .ge 40, 3) := by decide +kernel
theorem d_MO_seen_21 : decode b_MO_seen 21 = .ok (.aload_n 0, 1) := by decide +kernel
theorem d_MO_seen_22 : decode b_MO_seen 22 = .ok (.getfield 34, 3) := by decide +kernel
theorem d_MO_seen_25 : decode b_MO_seen 25 = .ok (.iconst 3, 1) := by decide +kernel
theorem d_MO_seen_26 : decode b_MO_seen 26 = .ok (.iload_n 1, 1) := by decide +kernel
theorem d_MO_seen_27 : decode b_MO_seen 27 = .ok (.imul, 1) := by decide +kernel
theorem d_MO_seen_28 : decode b_MO_seen 28 = .ok (.iload 4, 2) := by decide +kernel
theorem d_MO_seen_30 : decode b_MO_seen 30 = .ok (.iadd, 1) := by decide +kernel
theorem d_MO_seen_31 : decode b_MO_seen 31 = .ok (.iaload, 1) := by decide +kernel
theorem d_MO_seen_32 : decode b_MO_seen 32 = .ok (.iload_n 2, 1) := by decide +kernel
theorem d_MO_seen_33 : decode b_MO_seen 33 = .ok (.if_icmp .ne 17, 3) := by decide +kernel
theorem d_MO_seen_36 : decode b_MO_seen 36 = .ok (.aload_n 0, 1) := by decide +kernel
theorem d_MO_seen_37 : decode b_MO_seen 37 = .ok (.getfield 37, 3) := by decide +kernel
theorem d_MO_seen_40 : decode b_MO_seen 40 = .ok (.iconst 3, 1) := by decide +kernel
theorem d_MO_seen_41 : decode b_MO_seen 41 = .ok (.iload_n 1, 1) := by decide +kernel
theorem d_MO_seen_42 : decode b_MO_seen 42 = .ok (.imul, 1) := by decide +kernel
theorem d_MO_seen_43 : decode b_MO_seen 43 = .ok (.iload 4, 2) := by decide +kernel
theorem d_MO_seen_45 : decode b_MO_seen 45 = .ok (.iadd, 1) := by decide +kernel
theorem d_MO_seen_46 : decode b_MO_seen 46 = .ok (.iaload, 1) := by decide +kernel
theorem d_MO_seen_47 : decode b_MO_seen 47 = .ok (.goto 4, 3) := by decide +kernel
theorem d_MO_seen_50 : decode b_MO_seen 50 = .ok (.iload_n 3, 1) := by decide +kernel
theorem d_MO_seen_51 : decode b_MO_seen 51 = .ok (.istore_n 3, 1) := by decide +kernel
theorem d_MO_seen_52 : decode b_MO_seen 52 = .ok (.iinc 4 1, 3) := by decide +kernel
theorem d_MO_seen_55 : decode b_MO_seen 55 = .ok (.goto (-45), 3) := by decide +kernel
theorem d_MO_seen_58 : decode b_MO_seen 58 = .ok (.iload_n 3, 1) := by decide +kernel
theorem d_MO_seen_59 : decode b_MO_seen 59 = .ok (.ireturn, 1) := by decide +kernel
theorem d_MO_act_0 : decode b_MO_act 0 = .ok (.aload_n 0, 1) := by decide +kernel
theorem d_MO_act_1 : decode b_MO_act 1 = .ok (.getfield 22, 3) := by decide +kernel
theorem d_MO_act_4 : decode b_MO_act 4 = .ok (.iload_n 2, 1) := by decide +kernel
theorem d_MO_act_5 : decode b_MO_act 5 = .ok (.iaload, 1) := by decide +kernel
theorem d_MO_act_6 : decode b_MO_act 6 = .ok (.aload_n 0, 1) := by decide +kernel
theorem d_MO_act_7 : decode b_MO_act 7 = .ok (.getfield 7, 3) := by decide +kernel
theorem d_MO_act_10 : decode b_MO_act 10 = .ok (.iload_n 2, 1) := by decide +kernel
theorem d_MO_act_11 : decode b_MO_act 11 = .ok (.iaload, 1) := by decide +kernel
theorem d_MO_act_12 : decode b_MO_act 12 = .ok (.if_icmp .lt 5, 3) := by decide +kernel
theorem d_MO_act_15 : decode b_MO_act 15 = .ok (.iconst 0, 1) := by decide +kernel
theorem d_MO_act_16 : decode b_MO_act 16 = .ok (.ireturn, 1) := by decide +kernel
theorem d_MO_act_17 : decode b_MO_act 17 = .ok (.iconst 5, 1) := by decide +kernel
theorem d_MO_act_18 : decode b_MO_act 18 = .ok (.iload_n 2, 1) := by decide +kernel
theorem d_MO_act_19 : decode b_MO_act 19 = .ok (.imul, 1) := by decide +kernel
theorem d_MO_act_20 : decode b_MO_act 20 = .ok (.aload_n 0, 1) := by decide +kernel
theorem d_MO_act_21 : decode b_MO_act 21 = .ok (.getfield 22, 3) := by decide +kernel
theorem d_MO_act_24 : decode b_MO_act 24 = .ok (.iload_n 2, 1) := by decide +kernel
theorem d_MO_act_25 : decode b_MO_act 25 = .ok (.iaload, 1) := by decide +kernel
theorem d_MO_act_26 : decode b_MO_act 26 = .ok (.iadd, 1) := by decide +kernel
theorem d_MO_act_27 : decode b_MO_act 27 = .ok (.istore_n 3, 1) := by decide +kernel
theorem d_MO_act_28 : decode b_MO_act 28 = .ok (.aload_n 0, 1) := by decide +kernel
theorem d_MO_act_29 : decode b_MO_act 29 = .ok (.iload_n 1, 1) := by decide +kernel
theorem d_MO_act_30 : decode b_MO_act 30 = .ok (.iload_n 2, 1) := by decide +kernel
theorem d_MO_act_31 : decode b_MO_act 31 = .ok (.invokevirtual 109, 3) := by decide +kernel
theorem d_MO_act_34 : decode b_MO_act 34 = .ok (.istore 4, 2) := by decide +kernel
theorem d_MO_act_36 : decode b_MO_act 36 = .ok (.aload_n 0, 1) := by decide +kernel
theorem d_MO_act_37 : decode b_MO_act 37 = .ok (.getfield 31, 3) := by decide +kernel
theorem d_MO_act_40 : decode b_MO_act 40 = .ok (.iload 4, 2) := by decide +kernel
theorem d_MO_act_42 : decode b_MO_act 42 = .ok (.iaload, 1) := by decide +kernel
theorem d_MO_act_43 : decode b_MO_act 43 = .ok (.ifCond .ne 7, 3) := by decide +kernel
theorem d_MO_act_46 : decode b_MO_act 46 = .ok (.iconst 1, 1) := by decide +kernel
theorem d_MO_act_47 : decode b_MO_act 47 = .ok (.goto 4, 3) := by decide +kernel
theorem d_MO_act_50 : decode b_MO_act 50 = .ok (.iconst 0, 1) := by decide +kernel
theorem d_MO_act_51 : decode b_MO_act 51 = .ok (.istore 5, 2) := by decide +kernel
theorem d_MO_act_53 : decode b_MO_act 53 = .ok (.aload_n 0, 1) := by decide +kernel
theorem d_MO_act_54 : decode b_MO_act 54 = .ok (.getfield 13, 3) := by decide +kernel
theorem d_MO_act_57 : decode b_MO_act 57 = .ok (.iload_n 3, 1) := by decide +kernel
theorem d_MO_act_58 : decode b_MO_act 58 = .ok (.iaload, 1) := by decide +kernel
theorem d_MO_act_59 : decode b_MO_act 59 = .ok (.iconst 1, 1) := by decide +kernel
theorem d_MO_act_60 : decode b_MO_act 60 = .ok (.if_icmp .ne 33, 3) := by decide +kernel
theorem d_MO_act_63 : decode b_MO_act 63 = .ok (.aload_n 0, 1) := by decide +kernel
theorem d_MO_act_64 : decode b_MO_act 64 = .ok (.getfield 25, 3) := by decide +kernel
theorem d_MO_act_67 : decode b_MO_act 67 = .ok (.iconst 4, 1) := by decide +kernel
theorem d_MO_act_68 : decode b_MO_act 68 = .ok (.iload_n 2, 1) := by decide +kernel
theorem d_MO_act_69 : decode b_MO_act 69 = .ok (.imul, 1) := by decide +kernel
theorem d_MO_act_70 : decode b_MO_act 70 = .ok (.aload_n 0, 1) := by decide +kernel
theorem d_MO_act_71 : decode b_MO_act 71 = .ok (.getfield 19, 3) := by decide +kernel
theorem d_MO_act_74 : decode b_MO_act 74 = .ok (.iload_n 3, 1) := by decide +kernel
theorem d_MO_act_75 : decode b_MO_act 75 = .ok (.iaload, 1) := by decide +kernel
theorem d_MO_act_76 : decode b_MO_act 76 = .ok (.iadd, 1) := by decide +kernel
theorem d_MO_act_77 : decode b_MO_act 77 = .ok (.aload_n 0, 1) := by decide +kernel
theorem d_MO_act_78 : decode b_MO_act 78 = .ok (.iload 4, 2) := by decide +kernel
theorem d_MO_act_80 : decode b_MO_act 80 = .ok (.aload_n 0, 1) := by decide +kernel
theorem d_MO_act_81 : decode b_MO_act 81 = .ok (.getfield 16, 3) := by decide +kernel
theorem d_MO_act_84 : decode b_MO_act 84 = .ok (.iload_n 3, 1) := by decide +kernel
theorem d_MO_act_85 : decode b_MO_act 85 = .ok (.iaload, 1) := by decide +kernel
theorem d_MO_act_86 : decode b_MO_act 86 = .ok (.invokevirtual 113, 3) := by decide +kernel
theorem d_MO_act_89 : decode b_MO_act 89 = .ok (.iastore, 1) := by decide +kernel
theorem d_MO_act_90 : decode b_MO_act 90 = .ok (.goto 132, 3) := by decide +kernel
theorem d_MO_act_93 : decode b_MO_act 93 = .ok (.aload_n 0, 1) := by decide +kernel
theorem d_MO_act_94 : decode b_MO_act 94 = .ok (.getfield 13, 3) := by decide +kernel
theorem d_MO_act_97 : decode b_MO_act 97 = .ok (.iload_n 3, 1) := by decide +kernel
theorem d_MO_act_98 : decode b_MO_act 98 = .ok (.iaload, 1) := by decide +kernel
theorem d_MO_act_99 : decode b_MO_act 99 = .ok (.ifCond .ne 80, 3) := by decide +kernel
theorem d_MO_act_102 : decode b_MO_act 102 = .ok (.iload_n 1, 1) := by decide +kernel
theorem d_MO_act_103 : decode b_MO_act 103 = .ok (.ifCond .eq 76, 3) := by decide +kernel
theorem d_MO_act_106 : decode b_MO_act 106 = .ok (.aload_n 0, 1) := by decide +kernel
theorem d_MO_act_107 : decode b_MO_act 107 = .ok (.getfield 31, 3) := by decide +kernel
theorem d_MO_act_110 : decode b_MO_act 110 = .ok (.iload 4, 2) := by decide +kernel
theorem d_MO_act_112 : decode b_MO_act 112 = .ok (.iaload, 1) := by decide +kernel
theorem d_MO_act_113 : decode b_MO_act 113 = .ok (.iconst 3, 1) := by decide +kernel
theorem d_MO_act_114 : decode b_MO_act 114 = .ok (.if_icmp .ne 5, 3) := by decide +kernel
theorem d_MO_act_117 : decode b_MO_act 117 = .ok (.iconst 0, 1) := by decide +kernel
theorem d_MO_act_118 : decode b_MO_act 118 = .ok (.ireturn, 1) := by decide +kernel
theorem d_MO_act_119 : decode b_MO_act 119 = .ok (.aload_n 0, 1) := by decide +kernel
theorem d_MO_act_120 : decode b_MO_act 120 = .ok (.getfield 34, 3) := by decide +kernel
theorem d_MO_act_123 : decode b_MO_act 123 = .ok (.iconst 3, 1) := by decide +kernel
theorem d_MO_act_124 : decode b_MO_act 124 = .ok (.iload 4, 2) := by decide +kernel
theorem d_MO_act_126 : decode b_MO_act 126 = .ok (.imul, 1) := by decide +kernel
theorem d_MO_act_127 : decode b_MO_act 127 = .ok (.aload_n 0, 1) := by decide +kernel
theorem d_MO_act_128 : decode b_MO_act 128 = .ok (.getfield 31, 3) := by decide +kernel
theorem d_MO_act_131 : decode b_MO_act 131 = .ok (.iload 4, 2) := by decide +kernel
theorem d_MO_act_133 : decode b_MO_act 133 = .ok (.iaload, 1) := by decide +kernel
theorem d_MO_act_134 : decode b_MO_act 134 = .ok (.iadd, 1) := by decide +kernel
theorem d_MO_act_135 : decode b_MO_act 135 = .ok (.aload_n 0, 1) := by decide +kernel
theorem d_MO_act_136 : decode b_MO_act 136 = .ok (.getfield 16, 3) := by decide +kernel
theorem d_MO_act_139 : decode b_MO_act 139 = .ok (.iload_n 3, 1) := by decide +kernel
theorem d_MO_act_140 : decode b_MO_act 140 = .ok (.iaload, 1) := by decide +kernel
theorem d_MO_act_141 : decode b_MO_act 141 = .ok (.iastore, 1) := by decide +kernel
theorem d_MO_act_142 : decode b_MO_act 142 = .ok (.aload_n 0, 1) := by decide +kernel
theorem d_MO_act_143 : decode b_MO_act 143 = .ok (.getfield 37, 3) := by decide +kernel
theorem d_MO_act_146 : decode b_MO_act 146 = .ok (.iconst 3, 1) := by decide +kernel
theorem d_MO_act_147 : decode b_MO_act 147 = .ok (.iload 4, 2) := by decide +kernel
theorem d_MO_act_149 : decode b_MO_act 149 = .ok (.imul, 1) := by decide +kernel
theorem d_MO_act_150 : decode b_MO_act 150 = .ok (.aload_n 0, 1) := by decide +kernel
theorem d_MO_act_151 : decode b_MO_act 151 = .ok (.getfield 31, 3) := by decide +kernel
theorem d_MO_act_154 : decode b_MO_act 154 = .ok (.iload 4, 2) := by decide +kernel
theorem d_MO_act_156 : decode b_MO_act 156 = .ok (.iaload, 1) := by decide +kernel
theorem d_MO_act_157 : decode b_MO_act 157 = .ok (.iadd, 1) := by decide +kernel
theorem d_MO_act_158 : decode b_MO_act 158 = .ok (.aload_n 0, 1) := by decide +kernel
theorem d_MO_act_159 : decode b_MO_act 159 = .ok (.getfield 19, 3) := by decide +kernel
theorem d_MO_act_162 : decode b_MO_act 162 = .ok (.iload_n 3, 1) := by decide +kernel
theorem d_MO_act_163 : decode b_MO_act 163 = .ok (.iaload, 1) := by decide +kernel
theorem d_MO_act_164 : decode b_MO_act 164 = .ok (.iastore, 1) := by decide +kernel
theorem d_MO_act_165 : decode b_MO_act 165 = .ok (.aload_n 0, 1) := by decide +kernel
theorem d_MO_act_166 : decode b_MO_act 166 = .ok (.getfield 31, 3) := by decide +kernel
theorem d_MO_act_169 : decode b_MO_act 169 = .ok (.iload 4, 2) := by decide +kernel
theorem d_MO_act_171 : decode b_MO_act 171 = .ok (.dup2, 1) := by decide +kernel
theorem d_MO_act_172 : decode b_MO_act 172 = .ok (.iaload, 1) := by decide +kernel
theorem d_MO_act_173 : decode b_MO_act 173 = .ok (.iconst 1, 1) := by decide +kernel
theorem d_MO_act_174 : decode b_MO_act 174 = .ok (.iadd, 1) := by decide +kernel
theorem d_MO_act_175 : decode b_MO_act 175 = .ok (.iastore, 1) := by decide +kernel
theorem d_MO_act_176 : decode b_MO_act 176 = .ok (.goto 46, 3) := by decide +kernel
theorem d_MO_act_179 : decode b_MO_act 179 = .ok (.aload_n 0, 1) := by decide +kernel
theorem d_MO_act_180 : decode b_MO_act 180 = .ok (.getfield 13, 3) := by decide +kernel
theorem d_MO_act_183 : decode b_MO_act 183 = .ok (.iload_n 3, 1) := by decide +kernel
theorem d_MO_act_184 : decode b_MO_act 184 = .ok (.iaload, 1) := by decide +kernel
theorem d_MO_act_185 : decode b_MO_act 185 = .ok (.ifCond .eq 10, 3) := by decide +kernel
theorem d_MO_act_188 : decode b_MO_act 188 = .ok (.iload 5, 2) := by decide +kernel
theorem d_MO_act_190 : decode b_MO_act 190 = .ok (.ifCond .ne 5, 3) := by decide +kernel
theorem d_MO_act_193 : decode b_MO_act 193 = .ok (.iconst 0, 1) := by decide +kernel
theorem d_MO_act_194 : decode b_MO_act 194 = .ok (.ireturn, 1) := by decide +kernel
theorem d_MO_act_195 : decode b_MO_act 195 = .ok (.aload_n 0, 1) := by decide +kernel
theorem d_MO_act_196 : decode b_MO_act 196 = .ok (.getfield 13, 3) := by decide +kernel
theorem d_MO_act_199 : decode b_MO_act 199 = .ok (.iload_n 3, 1) := by decide +kernel
theorem d_MO_act_200 : decode b_MO_act 200 = .ok (.iaload, 1) := by decide +kernel
theorem d_MO_act_201 : decode b_MO_act 201 = .ok (.iconst 2, 1) := by decide +kernel
theorem d_MO_act_202 : decode b_MO_act 202 = .ok (.if_icmp .eq 20, 3) := by decide +kernel
theorem d_MO_act_205 : decode b_MO_act 205 = .ok (.aload_n 0, 1) := by decide +kernel
theorem d_MO_act_206 : decode b_MO_act 206 = .ok (.getfield 28, 3) := by decide +kernel
theorem d_MO_act_209 : decode b_MO_act 209 = .ok (.aload_n 0, 1) := by decide +kernel
theorem d_MO_act_210 : decode b_MO_act 210 = .ok (.getfield 16, 3) := by decide +kernel
theorem d_MO_act_213 : decode b_MO_act 213 = .ok (.iload_n 3, 1) := by decide +kernel
theorem d_MO_act_214 : decode b_MO_act 214 = .ok (.iaload, 1) := by decide +kernel
theorem d_MO_act_215 : decode b_MO_act 215 = .ok (.aload_n 0, 1) := by decide +kernel
theorem d_MO_act_216 : decode b_MO_act 216 = .ok (.getfield 19, 3) := by decide +kernel
theorem d_MO_act_219 : decode b_MO_act 219 = .ok (.iload_n 3, 1) := by decide +kernel
theorem d_MO_act_220 : decode b_MO_act 220 = .ok (.iaload, 1) := by decide +kernel
theorem d_MO_act_221 : decode b_MO_act 221 = .ok (.iastore, 1) := by decide +kernel
theorem d_MO_act_222 : decode b_MO_act 222 = .ok (.aload_n 0, 1) := by decide +kernel
theorem d_MO_act_223 : decode b_MO_act 223 = .ok (.getfield 22, 3) := by decide +kernel
theorem d_MO_act_226 : decode b_MO_act 226 = .ok (.iload_n 2, 1) := by decide +kernel
theorem d_MO_act_227 : decode b_MO_act 227 = .ok (.dup2, 1) := by decide +kernel
theorem d_MO_act_228 : decode b_MO_act 228 = .ok (.iaload, 1) := by decide +kernel
theorem d_MO_act_229 : decode b_MO_act 229 = .ok (.iconst 1, 1) := by decide +kernel
theorem d_MO_act_230 : decode b_MO_act 230 = .ok (.iadd, 1) := by decide +kernel
theorem d_MO_act_231 : decode b_MO_act 231 = .ok (.iastore, 1) := by decide +kernel
theorem d_MO_act_232 : decode b_MO_act 232 = .ok (.iconst 1, 1) := by decide +kernel
theorem d_MO_act_233 : decode b_MO_act 233 = .ok (.ireturn, 1) := by decide +kernel
theorem d_MO_drain_0 : decode b_MO_drain 0 = .ok (.iload_n 2, 1) := by decide +kernel
theorem d_MO_drain_1 : decode b_MO_drain 1 = .ok (.aload_n 0, 1) := by decide +kernel
theorem d_MO_drain_2 : decode b_MO_drain 2 = .ok (.getfield 31, 3) := by decide +kernel
theorem d_MO_drain_5 : decode b_MO_drain 5 = .ok (.iload_n 1, 1) := by decide +kernel
theorem d_MO_drain_6 : decode b_MO_drain 6 = .ok (.iaload, 1) := by decide +kernel
theorem d_MO_drain_7 : decode b_MO_drain 7 = .ok (.if_icmp .lt 5, 3) := by decide +kernel
theorem d_MO_drain_10 : decode b_MO_drain 10 = .ok (.iconst 0, 1) := by decide +kernel
theorem d_MO_drain_11 : decode b_MO_drain 11 = .ok (.ireturn, 1) := by decide +kernel
theorem d_MO_drain_12 : decode b_MO_drain 12 = .ok (.aload_n 0, 1) := by decide +kernel
theorem d_MO_drain_13 : decode b_MO_drain 13 = .ok (.getfield 28, 3) := by decide +kernel
theorem d_MO_drain_16 : decode b_MO_drain 16 = .ok (.aload_n 0, 1) := by decide +kernel
theorem d_MO_drain_17 : decode b_MO_drain 17 = .ok (.getfield 34, 3) := by decide +kernel
theorem d_MO_drain_20 : decode b_MO_drain 20 = .ok (.iconst 3, 1) := by decide +kernel
theorem d_MO_drain_21 : decode b_MO_drain 21 = .ok (.iload_n 1, 1) := by decide +kernel
theorem d_MO_drain_22 : decode b_MO_drain 22 = .ok (.imul, 1) := by decide +kernel
theorem d_MO_drain_23 : decode b_MO_drain 23 = .ok (.iload_n 2, 1) := by decide +kernel
theorem d_MO_drain_24 : decode b_MO_drain 24 = .ok (.iadd, 1) := by decide +kernel
theorem d_MO_drain_25 : decode b_MO_drain 25 = .ok (.iaload, 1) := by decide +kernel
theorem d_MO_drain_26 : decode b_MO_drain 26 = .ok (.aload_n 0, 1) := by decide +kernel
theorem d_MO_drain_27 : decode b_MO_drain 27 = .ok (.getfield 37, 3) := by decide +kernel
theorem d_MO_drain_30 : decode b_MO_drain 30 = .ok (.iconst 3, 1) := by decide +kernel
theorem d_MO_drain_31 : decode b_MO_drain 31 = .ok (.iload_n 1, 1) := by decide +kernel
theorem d_MO_drain_32 : decode b_MO_drain 32 = .ok (.imul, 1) := by decide +kernel
theorem d_MO_drain_33 : decode b_MO_drain 33 = .ok (.iload_n 2, 1) := by decide +kernel
theorem d_MO_drain_34 : decode b_MO_drain 34 = .ok (.iadd, 1) := by decide +kernel
theorem d_MO_drain_35 : decode b_MO_drain 35 = .ok (.iaload, 1) := by decide +kernel
theorem d_MO_drain_36 : decode b_MO_drain 36 = .ok (.iastore, 1) := by decide +kernel
theorem d_MO_drain_37 : decode b_MO_drain 37 = .ok (.aload_n 0, 1) := by decide +kernel
theorem d_MO_drain_38 : decode b_MO_drain 38 = .ok (.getfield 31, 3) := by decide +kernel
theorem d_MO_drain_41 : decode b_MO_drain 41 = .ok (.iload_n 1, 1) := by decide +kernel
theorem d_MO_drain_42 : decode b_MO_drain 42 = .ok (.dup2, 1) := by decide +kernel
theorem d_MO_drain_43 : decode b_MO_drain 43 = .ok (.iaload, 1) := by decide +kernel
theorem d_MO_drain_44 : decode b_MO_drain 44 = .ok (.iconst 1, 1) := by decide +kernel
theorem d_MO_drain_45 : decode b_MO_drain 45 = .ok (.isub, 1) := by decide +kernel
theorem d_MO_drain_46 : decode b_MO_drain 46 = .ok (.iastore, 1) := by decide +kernel
theorem d_MO_drain_47 : decode b_MO_drain 47 = .ok (.iload_n 2, 1) := by decide +kernel
theorem d_MO_drain_48 : decode b_MO_drain 48 = .ok (.istore_n 3, 1) := by decide +kernel
theorem d_MO_drain_49 : decode b_MO_drain 49 = .ok (.iload_n 3, 1) := by decide +kernel
theorem d_MO_drain_50 : decode b_MO_drain 50 = .ok (.aload_n 0, 1) := by decide +kernel
theorem d_MO_drain_51 : decode b_MO_drain 51 = .ok (.getfield 31, 3) := by decide +kernel
theorem d_MO_drain_54 : decode b_MO_drain 54 = .ok (.iload_n 1, 1) := by decide +kernel
theorem d_MO_drain_55 : decode b_MO_drain 55 = .ok (.iaload, 1) := by decide +kernel
theorem d_MO_drain_56 : decode b_MO_drain 56 = .ok (.if_icmp .ge 53, 3) := by decide +kernel
theorem d_MO_drain_59 : decode b_MO_drain 59 = .ok (.aload_n 0, 1) := by decide +kernel
theorem d_MO_drain_60 : decode b_MO_drain 60 = .ok (.getfield 34, 3) := by decide +kernel
theorem d_MO_drain_63 : decode b_MO_drain 63 = .ok (.iconst 3, 1) := by decide +kernel
theorem d_MO_drain_64 : decode b_MO_drain 64 = .ok (.iload_n 1, 1) := by decide +kernel
theorem d_MO_drain_65 : decode b_MO_drain 65 = .ok (.imul, 1) := by decide +kernel
theorem d_MO_drain_66 : decode b_MO_drain 66 = .ok (.iload_n 3, 1) := by decide +kernel
theorem d_MO_drain_67 : decode b_MO_drain 67 = .ok (.iadd, 1) := by decide +kernel
theorem d_MO_drain_68 : decode b_MO_drain 68 = .ok (.aload_n 0, 1) := by decide +kernel
theorem d_MO_drain_69 : decode b_MO_drain 69 = .ok (.getfield 34, 3) := by decide +kernel
theorem d_MO_drain_72 : decode b_MO_drain 72 = .ok (.iconst 3, 1) := by decide +kernel
theorem d_MO_drain_73 : decode b_MO_drain 73 = .ok (.iload_n 1, 1) := by decide +kernel
theorem d_MO_drain_74 : decode b_MO_drain 74 = .ok (.imul, 1) := by decide +kernel
theorem d_MO_drain_75 : decode b_MO_drain 75 = .ok (.iload_n 3, 1) := by decide +kernel
theorem d_MO_drain_76 : decode b_MO_drain 76 = .ok (.iadd, 1) := by decide +kernel
theorem d_MO_drain_77 : decode b_MO_drain 77 = .ok (.iconst 1, 1) := by decide +kernel
theorem d_MO_drain_78 : decode b_MO_drain 78 = .ok (.iadd, 1) := by decide +kernel
theorem d_MO_drain_79 : decode b_MO_drain 79 = .ok (.iaload, 1) := by decide +kernel
theorem d_MO_drain_80 : decode b_MO_drain 80 = .ok (.iastore, 1) := by decide +kernel
theorem d_MO_drain_81 : decode b_MO_drain 81 = .ok (.aload_n 0, 1) := by decide +kernel
theorem d_MO_drain_82 : decode b_MO_drain 82 = .ok (.getfield 37, 3) := by decide +kernel
theorem d_MO_drain_85 : decode b_MO_drain 85 = .ok (.iconst 3, 1) := by decide +kernel
theorem d_MO_drain_86 : decode b_MO_drain 86 = .ok (.iload_n 1, 1) := by decide +kernel
theorem d_MO_drain_87 : decode b_MO_drain 87 = .ok (.imul, 1) := by decide +kernel
theorem d_MO_drain_88 : decode b_MO_drain 88 = .ok (.iload_n 3, 1) := by decide +kernel
theorem d_MO_drain_89 : decode b_MO_drain 89 = .ok (.iadd, 1) := by decide +kernel
theorem d_MO_drain_90 : decode b_MO_drain 90 = .ok (.aload_n 0, 1) := by decide +kernel
theorem d_MO_drain_91 : decode b_MO_drain 91 = .ok (.getfield 37, 3) := by decide +kernel
theorem d_MO_drain_94 : decode b_MO_drain 94 = .ok (.iconst 3, 1) := by decide +kernel
theorem d_MO_drain_95 : decode b_MO_drain 95 = .ok (.iload_n 1, 1) := by decide +kernel
theorem d_MO_drain_96 : decode b_MO_drain 96 = .ok (.imul, 1) := by decide +kernel
theorem d_MO_drain_97 : decode b_MO_drain 97 = .ok (.iload_n 3, 1) := by decide +kernel
theorem d_MO_drain_98 : decode b_MO_drain 98 = .ok (.iadd, 1) := by decide +kernel
theorem d_MO_drain_99 : decode b_MO_drain 99 = .ok (.iconst 1, 1) := by decide +kernel
theorem d_MO_drain_100 : decode b_MO_drain 100 = .ok (.iadd, 1) := by decide +kernel
theorem d_MO_drain_101 : decode b_MO_drain 101 = .ok (.iaload, 1) := by decide +kernel
theorem d_MO_drain_102 : decode b_MO_drain 102 = .ok (.iastore, 1) := by decide +kernel
theorem d_MO_drain_103 : decode b_MO_drain 103 = .ok (.iinc 3 1, 3) := by decide +kernel
theorem d_MO_drain_106 : decode b_MO_drain 106 = .ok (.goto (-57), 3) := by decide +kernel
theorem d_MO_drain_109 : decode b_MO_drain 109 = .ok (.iconst 1, 1) := by decide +kernel
theorem d_MO_drain_110 : decode b_MO_drain 110 = .ok (.ireturn, 1) := by decide +kernel
theorem d_MO_oldestFor_0 : decode b_MO_oldestFor 0 = .ok (.iconst 0, 1) := by decide +kernel
theorem d_MO_oldestFor_1 : decode b_MO_oldestFor 1 = .ok (.istore_n 3, 1) := by decide +kernel
theorem d_MO_oldestFor_2 : decode b_MO_oldestFor 2 = .ok (.iload_n 3, 1) := by decide +kernel
theorem d_MO_oldestFor_3 : decode b_MO_oldestFor 3 = .ok (.aload_n 0, 1) := by decide +kernel
theorem d_MO_oldestFor_4 : decode b_MO_oldestFor 4 = .ok (.getfield 31, 3) := by decide +kernel
theorem d_MO_oldestFor_7 : decode b_MO_oldestFor 7 = .ok (.iload_n 1, 1) := by decide +kernel
theorem d_MO_oldestFor_8 : decode b_MO_oldestFor 8 = .ok (.iaload, 1) := by decide +kernel
theorem d_MO_oldestFor_9 : decode b_MO_oldestFor 9 = .ok (.if_icmp .ge 23, 3) := by decide +kernel
theorem d_MO_oldestFor_12 : decode b_MO_oldestFor 12 = .ok (.aload_n 0, 1) := by decide +kernel
theorem d_MO_oldestFor_13 : decode b_MO_oldestFor 13 = .ok (.getfield 34, 3) := by decide +kernel
theorem d_MO_oldestFor_16 : decode b_MO_oldestFor 16 = .ok (.iconst 3, 1) := by decide +kernel
theorem d_MO_oldestFor_17 : decode b_MO_oldestFor 17 = .ok (.iload_n 1, 1) := by decide +kernel
theorem d_MO_oldestFor_18 : decode b_MO_oldestFor 18 = .ok (.imul, 1) := by decide +kernel
theorem d_MO_oldestFor_19 : decode b_MO_oldestFor 19 = .ok (.iload_n 3, 1) := by decide +kernel
theorem d_MO_oldestFor_20 : decode b_MO_oldestFor 20 = .ok (.iadd, 1) := by decide +kernel
theorem d_MO_oldestFor_21 : decode b_MO_oldestFor 21 = .ok (.iaload, 1) := by decide +kernel
theorem d_MO_oldestFor_22 : decode b_MO_oldestFor 22 = .ok (.iload_n 2, 1) := by decide +kernel
theorem d_MO_oldestFor_23 : decode b_MO_oldestFor 23 = .ok (.if_icmp .eq 9, 3) := by decide +kernel
theorem d_MO_oldestFor_26 : decode b_MO_oldestFor 26 = .ok (.iinc 3 1, 3) := by decide +kernel
theorem d_MO_oldestFor_29 : decode b_MO_oldestFor 29 = .ok (.goto (-27), 3) := by decide +kernel
theorem d_MO_oldestFor_32 : decode b_MO_oldestFor 32 = .ok (.iload_n 3, 1) := by decide +kernel
theorem d_MO_oldestFor_33 : decode b_MO_oldestFor 33 = .ok (.ireturn, 1) := by decide +kernel
theorem d_MO_make_0 : decode b_MO_make 0 = .ok (.iload_n 2, 1) := by decide +kernel
theorem d_MO_make_1 : decode b_MO_make 1 = .ok (.iconst 4, 1) := by decide +kernel
theorem d_MO_make_2 : decode b_MO_make 2 = .ok (.if_icmp .ge 10, 3) := by decide +kernel
theorem d_MO_make_5 : decode b_MO_make 5 = .ok (.aload_n 0, 1) := by decide +kernel
theorem d_MO_make_6 : decode b_MO_make 6 = .ok (.iload_n 1, 1) := by decide +kernel
theorem d_MO_make_7 : decode b_MO_make 7 = .ok (.iload_n 2, 1) := by decide +kernel
theorem d_MO_make_8 : decode b_MO_make 8 = .ok (.invokevirtual 116, 3) := by decide +kernel
theorem d_MO_make_11 : decode b_MO_make 11 = .ok (.ireturn, 1) := by decide +kernel
theorem d_MO_make_12 : decode b_MO_make 12 = .ok (.iload_n 2, 1) := by decide +kernel
theorem d_MO_make_13 : decode b_MO_make 13 = .ok (.bipush 8, 2) := by decide +kernel
theorem d_MO_make_15 : decode b_MO_make 15 = .ok (.if_icmp .ge 36, 3) := by decide +kernel
theorem d_MO_make_18 : decode b_MO_make 18 = .ok (.iload_n 1, 1) := by decide +kernel
theorem d_MO_make_19 : decode b_MO_make 19 = .ok (.iconst 1, 1) := by decide +kernel
theorem d_MO_make_20 : decode b_MO_make 20 = .ok (.if_icmp .eq 14, 3) := by decide +kernel
theorem d_MO_make_23 : decode b_MO_make 23 = .ok (.iload_n 1, 1) := by decide +kernel
theorem d_MO_make_24 : decode b_MO_make 24 = .ok (.iconst 3, 1) := by decide +kernel
theorem d_MO_make_25 : decode b_MO_make 25 = .ok (.if_icmp .ne 24, 3) := by decide +kernel
theorem d_MO_make_28 : decode b_MO_make 28 = .ok (.iload_n 2, 1) := by decide +kernel
theorem d_MO_make_29 : decode b_MO_make 29 = .ok (.bipush 6, 2) := by decide +kernel
theorem d_MO_make_31 : decode b_MO_make 31 = .ok (.if_icmp .ge 18, 3) := by decide +kernel
theorem d_MO_make_34 : decode b_MO_make 34 = .ok (.aload_n 0, 1) := by decide +kernel
theorem d_MO_make_35 : decode b_MO_make 35 = .ok (.iload_n 2, 1) := by decide +kernel
theorem d_MO_make_36 : decode b_MO_make 36 = .ok (.iconst 4, 1) := by decide +kernel
theorem d_MO_make_37 : decode b_MO_make 37 = .ok (.isub, 1) := by decide +kernel
theorem d_MO_make_38 : decode b_MO_make 38 = .ok (.iconst 0, 1) := by decide +kernel
theorem d_MO_make_39 : decode b_MO_make 39 = .ok (.invokevirtual 120, 3) := by decide +kernel
theorem d_MO_make_42 : decode b_MO_make 42 = .ok (.ifCond .eq 7, 3) := by decide +kernel
theorem d_MO_make_45 : decode b_MO_make 45 = .ok (.iconst 1, 1) := by decide +kernel
theorem d_MO_make_46 : decode b_MO_make 46 = .ok (.goto 4, 3) := by decide +kernel
theorem d_MO_make_49 : decode b_MO_make 49 = .ok (.iconst 0, 1) := by decide +kernel
theorem d_MO_make_50 : decode b_MO_make 50 = .ok (.ireturn, 1) := by decide +kernel
theorem d_MO_make_51 : decode b_MO_make 51 = .ok (.iload_n 2, 1) := by decide +kernel
theorem d_MO_make_52 : decode b_MO_make 52 = .ok (.bipush 8, 2) := by decide +kernel
theorem d_MO_make_54 : decode b_MO_make 54 = .ok (.isub, 1) := by decide +kernel
theorem d_MO_make_55 : decode b_MO_make 55 = .ok (.iconst 4, 1) := by decide +kernel
theorem d_MO_make_56 : decode b_MO_make 56 = .ok (.idiv, 1) := by decide +kernel
theorem d_MO_make_57 : decode b_MO_make 57 = .ok (.istore_n 3, 1) := by decide +kernel
theorem d_MO_make_58 : decode b_MO_make 58 = .ok (.iload_n 1, 1) := by decide +kernel
theorem d_MO_make_59 : decode b_MO_make 59 = .ok (.iconst 2, 1) := by decide +kernel
theorem d_MO_make_60 : decode b_MO_make 60 = .ok (.if_icmp .ne 26, 3) := by decide +kernel
theorem d_MO_make_63 : decode b_MO_make 63 = .ok (.aload_n 0, 1) := by decide +kernel
theorem d_MO_make_64 : decode b_MO_make 64 = .ok (.iload_n 3, 1) := by decide +kernel
theorem d_MO_make_65 : decode b_MO_make 65 = .ok (.aload_n 0, 1) := by decide +kernel
theorem d_MO_make_66 : decode b_MO_make 66 = .ok (.iload_n 3, 1) := by decide +kernel
theorem d_MO_make_67 : decode b_MO_make 67 = .ok (.iload_n 2, 1) := by decide +kernel
theorem d_MO_make_68 : decode b_MO_make 68 = .ok (.bipush 8, 2) := by decide +kernel
theorem d_MO_make_70 : decode b_MO_make 70 = .ok (.isub, 1) := by decide +kernel
theorem d_MO_make_71 : decode b_MO_make 71 = .ok (.iconst 4, 1) := by decide +kernel
theorem d_MO_make_72 : decode b_MO_make 72 = .ok (.irem, 1) := by decide +kernel
theorem d_MO_make_73 : decode b_MO_make 73 = .ok (.invokevirtual 123, 3) := by decide +kernel
theorem d_MO_make_76 : decode b_MO_make 76 = .ok (.invokevirtual 120, 3) := by decide +kernel
theorem d_MO_make_79 : decode b_MO_make 79 = .ok (.ifCond .eq 7, 3) := by decide +kernel
theorem d_MO_make_82 : decode b_MO_make 82 = .ok (.iconst 1, 1) := by decide +kernel
theorem d_MO_make_83 : decode b_MO_make 83 = .ok (.goto 4, 3) := by decide +kernel
theorem d_MO_make_86 : decode b_MO_make 86 = .ok (.iconst 0, 1) := by decide +kernel
theorem d_MO_make_87 : decode b_MO_make 87 = .ok (.ireturn, 1) := by decide +kernel
theorem d_MO_find_0 : decode b_MO_find 0 = .ok (.aload_n 0, 1) := by decide +kernel
theorem d_MO_find_1 : decode b_MO_find 1 = .ok (.getfield 85, 3) := by decide +kernel
theorem d_MO_find_4 : decode b_MO_find 4 = .ok (.lload_n 2, 1) := by decide +kernel
theorem d_MO_find_5 : decode b_MO_find 5 = .ok (.lload 4, 2) := by decide +kernel
theorem d_MO_find_7 : decode b_MO_find 7 = .ok (.invokestatic 126, 3) := by decide +kernel
theorem d_MO_find_10 : decode b_MO_find 10 = .ok (.iaload, 1) := by decide +kernel
theorem d_MO_find_11 : decode b_MO_find 11 = .ok (.istore 6, 2) := by decide +kernel
theorem d_MO_find_13 : decode b_MO_find 13 = .ok (.iload 6, 2) := by decide +kernel
theorem d_MO_find_15 : decode b_MO_find 15 = .ok (.ifCond .lt 55, 3) := by decide +kernel
theorem d_MO_find_18 : decode b_MO_find 18 = .ok (.aload_n 0, 1) := by decide +kernel
theorem d_MO_find_19 : decode b_MO_find 19 = .ok (.getfield 57, 3) := by decide +kernel
theorem d_MO_find_22 : decode b_MO_find 22 = .ok (.sipush 12001, 3) := by decide +kernel
theorem d_MO_find_25 : decode b_MO_find 25 = .ok (.iload_n 1, 1) := by decide +kernel
theorem d_MO_find_26 : decode b_MO_find 26 = .ok (.imul, 1) := by decide +kernel
theorem d_MO_find_27 : decode b_MO_find 27 = .ok (.iload 6, 2) := by decide +kernel
theorem d_MO_find_29 : decode b_MO_find 29 = .ok (.iadd, 1) := by decide +kernel
theorem d_MO_find_30 : decode b_MO_find 30 = .ok (.laload, 1) := by decide +kernel
theorem d_MO_find_31 : decode b_MO_find 31 = .ok (.lload_n 2, 1) := by decide +kernel
theorem d_MO_find_32 : decode b_MO_find 32 = .ok (.lcmp, 1) := by decide +kernel
theorem d_MO_find_33 : decode b_MO_find 33 = .ok (.ifCond .ne 25, 3) := by decide +kernel
theorem d_MO_find_36 : decode b_MO_find 36 = .ok (.aload_n 0, 1) := by decide +kernel
theorem d_MO_find_37 : decode b_MO_find 37 = .ok (.getfield 61, 3) := by decide +kernel
theorem d_MO_find_40 : decode b_MO_find 40 = .ok (.sipush 12001, 3) := by decide +kernel
theorem d_MO_find_43 : decode b_MO_find 43 = .ok (.iload_n 1, 1) := by decide +kernel
theorem d_MO_find_44 : decode b_MO_find 44 = .ok (.imul, 1) := by decide +kernel
theorem d_MO_find_45 : decode b_MO_find 45 = .ok (.iload 6, 2) := by decide +kernel
theorem d_MO_find_47 : decode b_MO_find 47 = .ok (.iadd, 1) := by decide +kernel
theorem d_MO_find_48 : decode b_MO_find 48 = .ok (.laload, 1) := by decide +kernel
theorem d_MO_find_49 : decode b_MO_find 49 = .ok (.lload 4, 2) := by decide +kernel
theorem d_MO_find_51 : decode b_MO_find 51 = .ok (.lcmp, 1) := by decide +kernel
theorem d_MO_find_52 : decode b_MO_find 52 = .ok (.ifCond .ne 6, 3) := by decide +kernel
theorem d_MO_find_55 : decode b_MO_find 55 = .ok (.iload 6, 2) := by decide +kernel
theorem d_MO_find_57 : decode b_MO_find 57 = .ok (.ireturn, 1) := by decide +kernel
theorem d_MO_find_58 : decode b_MO_find 58 = .ok (.aload_n 0, 1) := by decide +kernel
theorem d_MO_find_59 : decode b_MO_find 59 = .ok (.getfield 88, 3) := by decide +kernel
theorem d_MO_find_62 : decode b_MO_find 62 = .ok (.iload 6, 2) := by decide +kernel
theorem d_MO_find_64 : decode b_MO_find 64 = .ok (.iaload, 1) := by decide +kernel
theorem d_MO_find_65 : decode b_MO_find 65 = .ok (.istore 6, 2) := by decide +kernel
theorem d_MO_find_67 : decode b_MO_find 67 = .ok (.goto (-54), 3) := by decide +kernel
theorem d_MO_find_70 : decode b_MO_find 70 = .ok (.iconst (-1), 1) := by decide +kernel
theorem d_MO_find_71 : decode b_MO_find 71 = .ok (.ireturn, 1) := by decide +kernel
theorem d_MO_chainOf_0 : decode b_MO_chainOf 0 = .ok (.lload_n 0, 1) := by decide +kernel
theorem d_MO_chainOf_1 : decode b_MO_chainOf 1 = .ok (.ldc2_w 130, 3) := by decide +kernel
theorem d_MO_chainOf_4 : decode b_MO_chainOf 4 = .ok (.lmul, 1) := by decide +kernel
theorem d_MO_chainOf_5 : decode b_MO_chainOf 5 = .ok (.lload_n 2, 1) := by decide +kernel
theorem d_MO_chainOf_6 : decode b_MO_chainOf 6 = .ok (.ladd, 1) := by decide +kernel
theorem d_MO_chainOf_7 : decode b_MO_chainOf 7 = .ok (.ldc2_w 132, 3) := by decide +kernel
theorem d_MO_chainOf_10 : decode b_MO_chainOf 10 = .ok (.lrem, 1) := by decide +kernel
theorem d_MO_chainOf_11 : decode b_MO_chainOf 11 = .ok (.lstore 4, 2) := by decide +kernel
theorem d_MO_chainOf_13 : decode b_MO_chainOf 13 = .ok (.lload 4, 2) := by decide +kernel
theorem d_MO_chainOf_15 : decode b_MO_chainOf 15 = .ok (.lconst 0, 1) := by decide +kernel
theorem d_MO_chainOf_16 : decode b_MO_chainOf 16 = .ok (.lcmp, 1) := by decide +kernel
theorem d_MO_chainOf_17 : decode b_MO_chainOf 17 = .ok (.ifCond .ge 12, 3) := by decide +kernel
theorem d_MO_chainOf_20 : decode b_MO_chainOf 20 = .ok (.lload 4, 2) := by decide +kernel
theorem d_MO_chainOf_22 : decode b_MO_chainOf 22 = .ok (.ldc2_w 132, 3) := by decide +kernel
theorem d_MO_chainOf_25 : decode b_MO_chainOf 25 = .ok (.ladd, 1) := by decide +kernel
theorem d_MO_chainOf_26 : decode b_MO_chainOf 26 = .ok (.goto 5, 3) := by decide +kernel
theorem d_MO_chainOf_29 : decode b_MO_chainOf 29 = .ok (.lload 4, 2) := by decide +kernel
theorem d_MO_chainOf_31 : decode b_MO_chainOf 31 = .ok (.l2i, 1) := by decide +kernel
theorem d_MO_chainOf_32 : decode b_MO_chainOf 32 = .ok (.ireturn, 1) := by decide +kernel
theorem d_MO_add_0 : decode b_MO_add 0 = .ok (.aload_n 0, 1) := by decide +kernel
theorem d_MO_add_1 : decode b_MO_add 1 = .ok (.getfield 47, 3) := by decide +kernel
theorem d_MO_add_4 : decode b_MO_add 4 = .ok (.iload_n 1, 1) := by decide +kernel
theorem d_MO_add_5 : decode b_MO_add 5 = .ok (.iaload, 1) := by decide +kernel
theorem d_MO_add_6 : decode b_MO_add 6 = .ok (.istore 4, 2) := by decide +kernel
theorem d_MO_add_8 : decode b_MO_add 8 = .ok (.sipush 12001, 3) := by decide +kernel
theorem d_MO_add_11 : decode b_MO_add 11 = .ok (.iload_n 1, 1) := by decide +kernel
theorem d_MO_add_12 : decode b_MO_add 12 = .ok (.imul, 1) := by decide +kernel
theorem d_MO_add_13 : decode b_MO_add 13 = .ok (.iload 4, 2) := by decide +kernel
theorem d_MO_add_15 : decode b_MO_add 15 = .ok (.iadd, 1) := by decide +kernel
theorem d_MO_add_16 : decode b_MO_add 16 = .ok (.istore 5, 2) := by decide +kernel
theorem d_MO_add_18 : decode b_MO_add 18 = .ok (.aload_n 0, 1) := by decide +kernel
theorem d_MO_add_19 : decode b_MO_add 19 = .ok (.getfield 57, 3) := by decide +kernel
theorem d_MO_add_22 : decode b_MO_add 22 = .ok (.iload 5, 2) := by decide +kernel
theorem d_MO_add_24 : decode b_MO_add 24 = .ok (.aload_n 0, 1) := by decide +kernel
theorem d_MO_add_25 : decode b_MO_add 25 = .ok (.invokevirtual 134, 3) := by decide +kernel
theorem d_MO_add_28 : decode b_MO_add 28 = .ok (.lastore, 1) := by decide +kernel
theorem d_MO_add_29 : decode b_MO_add 29 = .ok (.aload_n 0, 1) := by decide +kernel
theorem d_MO_add_30 : decode b_MO_add 30 = .ok (.getfield 61, 3) := by decide +kernel
theorem d_MO_add_33 : decode b_MO_add 33 = .ok (.iload 5, 2) := by decide +kernel
theorem d_MO_add_35 : decode b_MO_add 35 = .ok (.aload_n 0, 1) := by decide +kernel
theorem d_MO_add_36 : decode b_MO_add 36 = .ok (.invokevirtual 138, 3) := by decide +kernel
theorem d_MO_add_39 : decode b_MO_add 39 = .ok (.lastore, 1) := by decide +kernel
theorem d_MO_add_40 : decode b_MO_add 40 = .ok (.aload_n 0, 1) := by decide +kernel
theorem d_MO_add_41 : decode b_MO_add 41 = .ok (.getfield 64, 3) := by decide +kernel
theorem d_MO_add_44 : decode b_MO_add 44 = .ok (.iload 5, 2) := by decide +kernel
theorem d_MO_add_46 : decode b_MO_add 46 = .ok (.iload_n 2, 1) := by decide +kernel
theorem d_MO_add_47 : decode b_MO_add 47 = .ok (.iastore, 1) := by decide +kernel
theorem d_MO_add_48 : decode b_MO_add 48 = .ok (.aload_n 0, 1) := by decide +kernel
theorem d_MO_add_49 : decode b_MO_add 49 = .ok (.getfield 67, 3) := by decide +kernel
theorem d_MO_add_52 : decode b_MO_add 52 = .ok (.iload 5, 2) := by decide +kernel
theorem d_MO_add_54 : decode b_MO_add 54 = .ok (.iload_n 3, 1) := by decide +kernel
theorem d_MO_add_55 : decode b_MO_add 55 = .ok (.iastore, 1) := by decide +kernel
theorem d_MO_add_56 : decode b_MO_add 56 = .ok (.aload_n 0, 1) := by decide +kernel
theorem d_MO_add_57 : decode b_MO_add 57 = .ok (.getfield 70, 3) := by decide +kernel
theorem d_MO_add_60 : decode b_MO_add 60 = .ok (.iload 5, 2) := by decide +kernel
theorem d_MO_add_62 : decode b_MO_add 62 = .ok (.iload_n 2, 1) := by decide +kernel
theorem d_MO_add_63 : decode b_MO_add 63 = .ok (.ifCond .ge 7, 3) := by decide +kernel
theorem d_MO_add_66 : decode b_MO_add 66 = .ok (.iconst 0, 1) := by decide +kernel
theorem d_MO_add_67 : decode b_MO_add 67 = .ok (.goto 17, 3) := by decide +kernel
theorem d_MO_add_70 : decode b_MO_add 70 = .ok (.aload_n 0, 1) := by decide +kernel
theorem d_MO_add_71 : decode b_MO_add 71 = .ok (.getfield 70, 3) := by decide +kernel
theorem d_MO_add_74 : decode b_MO_add 74 = .ok (.sipush 12001, 3) := by decide +kernel
theorem d_MO_add_77 : decode b_MO_add 77 = .ok (.iload_n 1, 1) := by decide +kernel
theorem d_MO_add_78 : decode b_MO_add 78 = .ok (.imul, 1) := by decide +kernel
theorem d_MO_add_79 : decode b_MO_add 79 = .ok (.iload_n 2, 1) := by decide +kernel
theorem d_MO_add_80 : decode b_MO_add 80 = .ok (.iadd, 1) := by decide +kernel
theorem d_MO_add_81 : decode b_MO_add 81 = .ok (.iaload, 1) := by decide +kernel
theorem d_MO_add_82 : decode b_MO_add 82 = .ok (.iconst 1, 1) := by decide +kernel
theorem d_MO_add_83 : decode b_MO_add 83 = .ok (.iadd, 1) := by decide +kernel
theorem d_MO_add_84 : decode b_MO_add 84 = .ok (.iastore, 1) := by decide +kernel
theorem d_MO_add_85 : decode b_MO_add 85 = .ok (.aload_n 0, 1) := by decide +kernel
theorem d_MO_add_86 : decode b_MO_add 86 = .ok (.getfield 57, 3) := by decide +kernel
theorem d_MO_add_89 : decode b_MO_add 89 = .ok (.iload 5, 2) := by decide +kernel
theorem d_MO_add_91 : decode b_MO_add 91 = .ok (.laload, 1) := by decide +kernel
theorem d_MO_add_92 : decode b_MO_add 92 = .ok (.aload_n 0, 1) := by decide +kernel
theorem d_MO_add_93 : decode b_MO_add 93 = .ok (.getfield 61, 3) := by decide +kernel
theorem d_MO_add_96 : decode b_MO_add 96 = .ok (.iload 5, 2) := by decide +kernel
theorem d_MO_add_98 : decode b_MO_add 98 = .ok (.laload, 1) := by decide +kernel
theorem d_MO_add_99 : decode b_MO_add 99 = .ok (.invokestatic 126, 3) := by decide +kernel
theorem d_MO_add_102 : decode b_MO_add 102 = .ok (.istore 6, 2) := by decide +kernel
theorem d_MO_add_104 : decode b_MO_add 104 = .ok (.aload_n 0, 1) := by decide +kernel
theorem d_MO_add_105 : decode b_MO_add 105 = .ok (.getfield 88, 3) := by decide +kernel
theorem d_MO_add_108 : decode b_MO_add 108 = .ok (.iload 4, 2) := by decide +kernel
theorem d_MO_add_110 : decode b_MO_add 110 = .ok (.aload_n 0, 1) := by decide +kernel
theorem d_MO_add_111 : decode b_MO_add 111 = .ok (.getfield 85, 3) := by decide +kernel
theorem d_MO_add_114 : decode b_MO_add 114 = .ok (.iload 6, 2) := by decide +kernel
theorem d_MO_add_116 : decode b_MO_add 116 = .ok (.iaload, 1) := by decide +kernel
theorem d_MO_add_117 : decode b_MO_add 117 = .ok (.iastore, 1) := by decide +kernel
theorem d_MO_add_118 : decode b_MO_add 118 = .ok (.aload_n 0, 1) := by decide +kernel
theorem d_MO_add_119 : decode b_MO_add 119 = .ok (.getfield 85, 3) := by decide +kernel
theorem d_MO_add_122 : decode b_MO_add 122 = .ok (.iload 6, 2) := by decide +kernel
theorem d_MO_add_124 : decode b_MO_add 124 = .ok (.iload 4, 2) := by decide +kernel
theorem d_MO_add_126 : decode b_MO_add 126 = .ok (.iastore, 1) := by decide +kernel
theorem d_MO_add_127 : decode b_MO_add 127 = .ok (.aload_n 0, 1) := by decide +kernel
theorem d_MO_add_128 : decode b_MO_add 128 = .ok (.getfield 47, 3) := by decide +kernel
theorem d_MO_add_131 : decode b_MO_add 131 = .ok (.iload_n 1, 1) := by decide +kernel
theorem d_MO_add_132 : decode b_MO_add 132 = .ok (.dup2, 1) := by decide +kernel
theorem d_MO_add_133 : decode b_MO_add 133 = .ok (.iaload, 1) := by decide +kernel
theorem d_MO_add_134 : decode b_MO_add 134 = .ok (.iconst 1, 1) := by decide +kernel
theorem d_MO_add_135 : decode b_MO_add 135 = .ok (.iadd, 1) := by decide +kernel
theorem d_MO_add_136 : decode b_MO_add 136 = .ok (.iastore, 1) := by decide +kernel
theorem d_MO_add_137 : decode b_MO_add 137 = .ok (.iconst 0, 1) := by decide +kernel
theorem d_MO_add_138 : decode b_MO_add 138 = .ok (.istore 7, 2) := by decide +kernel
