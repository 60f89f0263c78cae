theorem d_EX_init_0 : decode b_EX_init 0 = .ok (.aload_n 0, 1) := by decide +kernel
theorem d_EX_init_1 : decode b_EX_init 1 = .ok (.invokespecial 3, 3) := by decide +kernel
theorem d_EX_init_4 : decode b_EX_init 4 = .ok (.aload_n 0, 1) := by decide +kernel
theorem d_EX_init_5 : decode b_EX_init 5 = .ok (.new 9, 3) := by decide +kernel
theorem d_EX_init_8 : decode b_EX_init 8 = .ok (.dup, 1) := by decide +kernel
theorem d_EX_init_9 : decode b_EX_init 9 = .ok (.invokespecial 11, 3) := by decide +kernel
theorem d_EX_init_12 : decode b_EX_init 12 = .ok (.putfield 12, 3) := by decide +kernel
theorem d_EX_init_15 : decode b_EX_init 15 = .ok (.aload_n 0, 1) := by decide +kernel
theorem d_EX_init_16 : decode b_EX_init 16 = .ok (.new 18, 3) := by decide +kernel
theorem d_EX_init_19 : decode b_EX_init 19 = .ok (.dup, 1) := by decide +kernel
theorem d_EX_init_20 : decode b_EX_init 20 = .ok (.aload_n 1, 1) := by decide +kernel
theorem d_EX_init_21 : decode b_EX_init 21 = .ok (.invokespecial 20, 3) := by decide +kernel
theorem d_EX_init_24 : decode b_EX_init 24 = .ok (.putfield 23, 3) := by decide +kernel
theorem d_EX_init_27 : decode b_EX_init 27 = .ok (.return_, 1) := by decide +kernel
theorem d_EX_explore_0 : decode b_EX_explore 0 = .ok (.aload_n 0, 1) := by decide +kernel
theorem d_EX_explore_1 : decode b_EX_explore 1 = .ok (.getfield 23, 3) := by decide +kernel
theorem d_EX_explore_4 : decode b_EX_explore 4 = .ok (.iload_n 1, 1) := by decide +kernel
theorem d_EX_explore_5 : decode b_EX_explore 5 = .ok (.invokevirtual 27, 3) := by decide +kernel
theorem d_EX_explore_8 : decode b_EX_explore 8 = .ok (.aload_n 0, 1) := by decide +kernel
theorem d_EX_explore_9 : decode b_EX_explore 9 = .ok (.getfield 12, 3) := by decide +kernel
theorem d_EX_explore_12 : decode b_EX_explore 12 = .ok (.invokevirtual 31, 3) := by decide +kernel
theorem d_EX_explore_15 : decode b_EX_explore 15 = .ok (.aload_n 2, 1) := by decide +kernel
theorem d_EX_explore_16 : decode b_EX_explore 16 = .ok (.invokevirtual 34, 3) := by decide +kernel
theorem d_EX_explore_19 : decode b_EX_explore 19 = .ok (.aload_n 0, 1) := by decide +kernel
theorem d_EX_explore_20 : decode b_EX_explore 20 = .ok (.getfield 12, 3) := by decide +kernel
theorem d_EX_explore_23 : decode b_EX_explore 23 = .ok (.lconst 0, 1) := by decide +kernel
theorem d_EX_explore_24 : decode b_EX_explore 24 = .ok (.lconst 0, 1) := by decide +kernel
theorem d_EX_explore_25 : decode b_EX_explore 25 = .ok (.invokevirtual 39, 3) := by decide +kernel
theorem d_EX_explore_28 : decode b_EX_explore 28 = .ok (.ifCond .eq 9, 3) := by decide +kernel
theorem d_EX_explore_31 : decode b_EX_explore 31 = .ok (.aload_n 2, 1) := by decide +kernel
theorem d_EX_explore_32 : decode b_EX_explore 32 = .ok (.iconst 0, 1) := by decide +kernel
theorem d_EX_explore_33 : decode b_EX_explore 33 = .ok (.iconst 0, 1) := by decide +kernel
theorem d_EX_explore_34 : decode b_EX_explore 34 = .ok (.invokevirtual 43, 3) := by decide +kernel
theorem d_EX_explore_37 : decode b_EX_explore 37 = .ok (.iconst 0, 1) := by decide +kernel
theorem d_EX_explore_38 : decode b_EX_explore 38 = .ok (.istore_n 3, 1) := by decide +kernel
theorem d_EX_explore_39 : decode b_EX_explore 39 = .ok (.iconst 1, 1) := by decide +kernel
theorem d_EX_explore_40 : decode b_EX_explore 40 = .ok (.istore 4, 2) := by decide +kernel
theorem d_EX_explore_42 : decode b_EX_explore 42 = .ok (.iconst 0, 1) := by decide +kernel
theorem d_EX_explore_43 : decode b_EX_explore 43 = .ok (.istore 5, 2) := by decide +kernel
theorem d_EX_explore_45 : decode b_EX_explore 45 = .ok (.iload 5, 2) := by decide +kernel
theorem d_EX_explore_47 : decode b_EX_explore 47 = .ok (.sipush 12000, 3) := by decide +kernel
theorem d_EX_explore_50 : decode b_EX_explore 50 = .ok (.if_icmp .ge 99, 3) := by decide +kernel
theorem d_EX_explore_53 : decode b_EX_explore 53 = .ok (.iload 5, 2) := by decide +kernel
theorem d_EX_explore_55 : decode b_EX_explore 55 = .ok (.aload_n 0, 1) := by decide +kernel
theorem d_EX_explore_56 : decode b_EX_explore 56 = .ok (.getfield 12, 3) := by decide +kernel
theorem d_EX_explore_59 : decode b_EX_explore 59 = .ok (.getfield 47, 3) := by decide +kernel
theorem d_EX_explore_62 : decode b_EX_explore 62 = .ok (.if_icmp .ge 87, 3) := by decide +kernel
theorem d_EX_explore_65 : decode b_EX_explore 65 = .ok (.aload_n 0, 1) := by decide +kernel
theorem d_EX_explore_66 : decode b_EX_explore 66 = .ok (.getfield 12, 3) := by decide +kernel
theorem d_EX_explore_69 : decode b_EX_explore 69 = .ok (.getfield 51, 3) := by decide +kernel
theorem d_EX_explore_72 : decode b_EX_explore 72 = .ok (.ifCond .eq 6, 3) := by decide +kernel
theorem d_EX_explore_75 : decode b_EX_explore 75 = .ok (.goto 74, 3) := by decide +kernel
theorem d_EX_explore_78 : decode b_EX_explore 78 = .ok (.iload 5, 2) := by decide +kernel
theorem d_EX_explore_80 : decode b_EX_explore 80 = .ok (.iload 4, 2) := by decide +kernel
theorem d_EX_explore_82 : decode b_EX_explore 82 = .ok (.if_icmp .ne 15, 3) := by decide +kernel
theorem d_EX_explore_85 : decode b_EX_explore 85 = .ok (.iinc 3 1, 3) := by decide +kernel
theorem d_EX_explore_88 : decode b_EX_explore 88 = .ok (.aload_n 0, 1) := by decide +kernel
theorem d_EX_explore_89 : decode b_EX_explore 89 = .ok (.getfield 12, 3) := by decide +kernel
theorem d_EX_explore_92 : decode b_EX_explore 92 = .ok (.getfield 47, 3) := by decide +kernel
theorem d_EX_explore_95 : decode b_EX_explore 95 = .ok (.istore 4, 2) := by decide +kernel
theorem d_EX_explore_97 : decode b_EX_explore 97 = .ok (.aload_n 0, 1) := by decide +kernel
theorem d_EX_explore_98 : decode b_EX_explore 98 = .ok (.getfield 23, 3) := by decide +kernel
theorem d_EX_explore_101 : decode b_EX_explore 101 = .ok (.aload_n 0, 1) := by decide +kernel
theorem d_EX_explore_102 : decode b_EX_explore 102 = .ok (.getfield 12, 3) := by decide +kernel
theorem d_EX_explore_105 : decode b_EX_explore 105 = .ok (.getfield 55, 3) := by decide +kernel
theorem d_EX_explore_108 : decode b_EX_explore 108 = .ok (.iload 5, 2) := by decide +kernel
theorem d_EX_explore_110 : decode b_EX_explore 110 = .ok (.laload, 1) := by decide +kernel
theorem d_EX_explore_111 : decode b_EX_explore 111 = .ok (.aload_n 0, 1) := by decide +kernel
theorem d_EX_explore_112 : decode b_EX_explore 112 = .ok (.getfield 12, 3) := by decide +kernel
theorem d_EX_explore_115 : decode b_EX_explore 115 = .ok (.getfield 59, 3) := by decide +kernel
theorem d_EX_explore_118 : decode b_EX_explore 118 = .ok (.iload 5, 2) := by decide +kernel
theorem d_EX_explore_120 : decode b_EX_explore 120 = .ok (.laload, 1) := by decide +kernel
theorem d_EX_explore_121 : decode b_EX_explore 121 = .ok (.invokevirtual 62, 3) := by decide +kernel
theorem d_EX_explore_124 : decode b_EX_explore 124 = .ok (.aload_n 2, 1) := by decide +kernel
theorem d_EX_explore_125 : decode b_EX_explore 125 = .ok (.aload_n 0, 1) := by decide +kernel
theorem d_EX_explore_126 : decode b_EX_explore 126 = .ok (.getfield 23, 3) := by decide +kernel
theorem d_EX_explore_129 : decode b_EX_explore 129 = .ok (.invokevirtual 66, 3) := by decide +kernel
theorem d_EX_explore_132 : decode b_EX_explore 132 = .ok (.iload_n 3, 1) := by decide +kernel
theorem d_EX_explore_133 : decode b_EX_explore 133 = .ok (.invokevirtual 70, 3) := by decide +kernel
theorem d_EX_explore_136 : decode b_EX_explore 136 = .ok (.aload_n 0, 1) := by decide +kernel
theorem d_EX_explore_137 : decode b_EX_explore 137 = .ok (.iload 5, 2) := by decide +kernel
theorem d_EX_explore_139 : decode b_EX_explore 139 = .ok (.aload_n 2, 1) := by decide +kernel
theorem d_EX_explore_140 : decode b_EX_explore 140 = .ok (.invokevirtual 73, 3) := by decide +kernel
theorem d_EX_explore_143 : decode b_EX_explore 143 = .ok (.iinc 5 1, 3) := by decide +kernel
theorem d_EX_explore_146 : decode b_EX_explore 146 = .ok (.goto (-101), 3) := by decide +kernel
theorem d_EX_explore_149 : decode b_EX_explore 149 = .ok (.aload_n 2, 1) := by decide +kernel
theorem d_EX_explore_150 : decode b_EX_explore 150 = .ok (.aload_n 0, 1) := by decide +kernel
theorem d_EX_explore_151 : decode b_EX_explore 151 = .ok (.getfield 12, 3) := by decide +kernel
theorem d_EX_explore_154 : decode b_EX_explore 154 = .ok (.getfield 51, 3) := by decide +kernel
theorem d_EX_explore_157 : decode b_EX_explore 157 = .ok (.putfield 77, 3) := by decide +kernel
theorem d_EX_explore_160 : decode b_EX_explore 160 = .ok (.aload_n 2, 1) := by decide +kernel
theorem d_EX_explore_161 : decode b_EX_explore 161 = .ok (.invokevirtual 78, 3) := by decide +kernel
theorem d_EX_explore_164 : decode b_EX_explore 164 = .ok (.return_, 1) := by decide +kernel
theorem d_EX_lookAround_0 : decode b_EX_lookAround 0 = .ok (.iconst 0, 1) := by decide +kernel
theorem d_EX_lookAround_1 : decode b_EX_lookAround 1 = .ok (.istore_n 3, 1) := by decide +kernel
theorem d_EX_lookAround_2 : decode b_EX_lookAround 2 = .ok (.aload_n 0, 1) := by decide +kernel
theorem d_EX_lookAround_3 : decode b_EX_lookAround 3 = .ok (.getfield 23, 3) := by decide +kernel
theorem d_EX_lookAround_6 : decode b_EX_lookAround 6 = .ok (.invokevirtual 81, 3) := by decide +kernel
theorem d_EX_lookAround_9 : decode b_EX_lookAround 9 = .ok (.istore 4, 2) := by decide +kernel
theorem d_EX_lookAround_11 : decode b_EX_lookAround 11 = .ok (.iconst 0, 1) := by decide +kernel
theorem d_EX_lookAround_12 : decode b_EX_lookAround 12 = .ok (.istore 5, 2) := by decide +kernel
theorem d_EX_lookAround_14 : decode b_EX_lookAround 14 = .ok (.iload 5, 2) := by decide +kernel
theorem d_EX_lookAround_16 : decode b_EX_lookAround 16 = .ok (.iload 4, 2) := by decide +kernel
theorem d_EX_lookAround_18 : decode b_EX_lookAround 18 = .ok (.if_icmp .ge 55, 3) := by decide +kernel
theorem d_EX_lookAround_21 : decode b_EX_lookAround 21 = .ok (.aload_n 0, 1) := by decide +kernel
theorem d_EX_lookAround_22 : decode b_EX_lookAround 22 = .ok (.getfield 23, 3) := by decide +kernel
theorem d_EX_lookAround_25 : decode b_EX_lookAround 25 = .ok (.iload 5, 2) := by decide +kernel
theorem d_EX_lookAround_27 : decode b_EX_lookAround 27 = .ok (.invokevirtual 84, 3) := by decide +kernel
theorem d_EX_lookAround_30 : decode b_EX_lookAround 30 = .ok (.ifCond .eq 37, 3) := by decide +kernel
theorem d_EX_lookAround_33 : decode b_EX_lookAround 33 = .ok (.iinc 3 1, 3) := by decide +kernel
theorem d_EX_lookAround_36 : decode b_EX_lookAround 36 = .ok (.aload_n 0, 1) := by decide +kernel
theorem d_EX_lookAround_37 : decode b_EX_lookAround 37 = .ok (.getfield 12, 3) := by decide +kernel
theorem d_EX_lookAround_40 : decode b_EX_lookAround 40 = .ok (.aload_n 0, 1) := by decide +kernel
theorem d_EX_lookAround_41 : decode b_EX_lookAround 41 = .ok (.getfield 23, 3) := by decide +kernel
theorem d_EX_lookAround_44 : decode b_EX_lookAround 44 = .ok (.getfield 88, 3) := by decide +kernel
theorem d_EX_lookAround_47 : decode b_EX_lookAround 47 = .ok (.aload_n 0, 1) := by decide +kernel
theorem d_EX_lookAround_48 : decode b_EX_lookAround 48 = .ok (.getfield 23, 3) := by decide +kernel
theorem d_EX_lookAround_51 : decode b_EX_lookAround 51 = .ok (.getfield 92, 3) := by decide +kernel
theorem d_EX_lookAround_54 : decode b_EX_lookAround 54 = .ok (.invokevirtual 39, 3) := by decide +kernel
theorem d_EX_lookAround_57 : decode b_EX_lookAround 57 = .ok (.ifCond .eq 10, 3) := by decide +kernel
theorem d_EX_lookAround_60 : decode b_EX_lookAround 60 = .ok (.aload_n 2, 1) := by decide +kernel
theorem d_EX_lookAround_61 : decode b_EX_lookAround 61 = .ok (.iload_n 1, 1) := by decide +kernel
theorem d_EX_lookAround_62 : decode b_EX_lookAround 62 = .ok (.iload 5, 2) := by decide +kernel
theorem d_EX_lookAround_64 : decode b_EX_lookAround 64 = .ok (.invokevirtual 43, 3) := by decide +kernel
theorem d_EX_lookAround_67 : decode b_EX_lookAround 67 = .ok (.iinc 5 1, 3) := by decide +kernel
theorem d_EX_lookAround_70 : decode b_EX_lookAround 70 = .ok (.goto (-56), 3) := by decide +kernel
theorem d_EX_lookAround_73 : decode b_EX_lookAround 73 = .ok (.aload_n 0, 1) := by decide +kernel
theorem d_EX_lookAround_74 : decode b_EX_lookAround 74 = .ok (.getfield 23, 3) := by decide +kernel
theorem d_EX_lookAround_77 : decode b_EX_lookAround 77 = .ok (.invokevirtual 95, 3) := by decide +kernel
theorem d_EX_lookAround_80 : decode b_EX_lookAround 80 = .ok (.ifCond .eq 18, 3) := by decide +kernel
theorem d_EX_lookAround_83 : decode b_EX_lookAround 83 = .ok (.aload_n 2, 1) := by decide +kernel
theorem d_EX_lookAround_84 : decode b_EX_lookAround 84 = .ok (.aload_n 0, 1) := by decide +kernel
theorem d_EX_lookAround_85 : decode b_EX_lookAround 85 = .ok (.getfield 23, 3) := by decide +kernel
theorem d_EX_lookAround_88 : decode b_EX_lookAround 88 = .ok (.invokevirtual 99, 3) := by decide +kernel
theorem d_EX_lookAround_91 : decode b_EX_lookAround 91 = .ok (.iload_n 1, 1) := by decide +kernel
theorem d_EX_lookAround_92 : decode b_EX_lookAround 92 = .ok (.invokevirtual 103, 3) := by decide +kernel
theorem d_EX_lookAround_95 : decode b_EX_lookAround 95 = .ok (.goto 17, 3) := by decide +kernel
theorem d_EX_lookAround_98 : decode b_EX_lookAround 98 = .ok (.iload_n 3, 1) := by decide +kernel
theorem d_EX_lookAround_99 : decode b_EX_lookAround 99 = .ok (.ifCond .ne 13, 3) := by decide +kernel
theorem d_EX_lookAround_102 : decode b_EX_lookAround 102 = .ok (.aload_n 2, 1) := by decide +kernel
theorem d_EX_lookAround_103 : decode b_EX_lookAround 103 = .ok (.dup, 1) := by decide +kernel
theorem d_EX_lookAround_104 : decode b_EX_lookAround 104 = .ok (.getfield 107, 3) := by decide +kernel
theorem d_EX_lookAround_107 : decode b_EX_lookAround 107 = .ok (.iconst 1, 1) := by decide +kernel
theorem d_EX_lookAround_108 : decode b_EX_lookAround 108 = .ok (.iadd, 1) := by decide +kernel
theorem d_EX_lookAround_109 : decode b_EX_lookAround 109 = .ok (.putfield 107, 3) := by decide +kernel
theorem d_EX_lookAround_112 : decode b_EX_lookAround 112 = .ok (.return_, 1) := by decide +kernel
