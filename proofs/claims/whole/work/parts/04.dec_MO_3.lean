theorem d_MO_row_30 : decode b_MO_row 30 = .ok (.aload_n 0, 1) := by decide +kernel
theorem d_MO_row_31 : decode b_MO_row 31 = .ok (.iconst 3, 1) := by decide +kernel
theorem d_MO_row_32 : decode b_MO_row 32 = .ok (.invokevirtual 102, 3) := by decide +kernel
theorem d_MO_row_35 : decode b_MO_row 35 = .ok (.ireturn, 1) := by decide +kernel
theorem d_MO_row_36 : decode b_MO_row 36 = .ok (.aload_n 0, 1) := by decide +kernel
theorem d_MO_row_37 : decode b_MO_row 37 = .ok (.getfield 73, 3) := by decide +kernel
theorem d_MO_row_40 : decode b_MO_row 40 = .ok (.sipush 12001, 3) := by decide +kernel
theorem d_MO_row_43 : decode b_MO_row 43 = .ok (.iload_n 1, 1) := by decide +kernel
theorem d_MO_row_44 : decode b_MO_row 44 = .ok (.imul, 1) := by decide +kernel
theorem d_MO_row_45 : decode b_MO_row 45 = .ok (.iload_n 2, 1) := by decide +kernel
theorem d_MO_row_46 : decode b_MO_row 46 = .ok (.iadd, 1) := by decide +kernel
theorem d_MO_row_47 : decode b_MO_row 47 = .ok (.iaload, 1) := by decide +kernel
theorem d_MO_row_48 : decode b_MO_row 48 = .ok (.istore 4, 2) := by decide +kernel
theorem d_MO_row_50 : decode b_MO_row 50 = .ok (.aload_n 0, 1) := by decide +kernel
theorem d_MO_row_51 : decode b_MO_row 51 = .ok (.getfield 70, 3) := by decide +kernel
theorem d_MO_row_54 : decode b_MO_row 54 = .ok (.sipush 12001, 3) := by decide +kernel
theorem d_MO_row_57 : decode b_MO_row 57 = .ok (.iload_n 1, 1) := by decide +kernel
theorem d_MO_row_58 : decode b_MO_row 58 = .ok (.imul, 1) := by decide +kernel
theorem d_MO_row_59 : decode b_MO_row 59 = .ok (.iload 4, 2) := by decide +kernel
theorem d_MO_row_61 : decode b_MO_row 61 = .ok (.iadd, 1) := by decide +kernel
theorem d_MO_row_62 : decode b_MO_row 62 = .ok (.iaload, 1) := by decide +kernel
theorem d_MO_row_63 : decode b_MO_row 63 = .ok (.istore 5, 2) := by decide +kernel
theorem d_MO_row_65 : decode b_MO_row 65 = .ok (.iload_n 3, 1) := by decide +kernel
theorem d_MO_row_66 : decode b_MO_row 66 = .ok (.iload 5, 2) := by decide +kernel
theorem d_MO_row_68 : decode b_MO_row 68 = .ok (.if_icmp .lt 5, 3) := by decide +kernel
theorem d_MO_row_71 : decode b_MO_row 71 = .ok (.iconst (-1), 1) := by decide +kernel
theorem d_MO_row_72 : decode b_MO_row 72 = .ok (.ireturn, 1) := by decide +kernel
theorem d_MO_row_73 : decode b_MO_row 73 = .ok (.iload 5, 2) := by decide +kernel
theorem d_MO_row_75 : decode b_MO_row 75 = .ok (.istore 6, 2) := by decide +kernel
theorem d_MO_row_77 : decode b_MO_row 77 = .ok (.iload 6, 2) := by decide +kernel
theorem d_MO_row_79 : decode b_MO_row 79 = .ok (.ifCond .le 46, 3) := by decide +kernel
theorem d_MO_row_82 : decode b_MO_row 82 = .ok (.aload_n 0, 1) := by decide +kernel
theorem d_MO_row_83 : decode b_MO_row 83 = .ok (.getfield 91, 3) := by decide +kernel
theorem d_MO_row_86 : decode b_MO_row 86 = .ok (.iload 6, 2) := by decide +kernel
theorem d_MO_row_88 : decode b_MO_row 88 = .ok (.iconst 1, 1) := by decide +kernel
theorem d_MO_row_89 : decode b_MO_row 89 = .ok (.isub, 1) := by decide +kernel
theorem d_MO_row_90 : decode b_MO_row 90 = .ok (.aload_n 0, 1) := by decide +kernel
theorem d_MO_row_91 : decode b_MO_row 91 = .ok (.getfield 67, 3) := by decide +kernel
theorem d_MO_row_94 : decode b_MO_row 94 = .ok (.sipush 12001, 3) := by decide +kernel
theorem d_MO_row_97 : decode b_MO_row 97 = .ok (.iload_n 1, 1) := by decide +kernel
theorem d_MO_row_98 : decode b_MO_row 98 = .ok (.imul, 1) := by decide +kernel
theorem d_MO_row_99 : decode b_MO_row 99 = .ok (.iload 4, 2) := by decide +kernel
theorem d_MO_row_101 : decode b_MO_row 101 = .ok (.iadd, 1) := by decide +kernel
theorem d_MO_row_102 : decode b_MO_row 102 = .ok (.iaload, 1) := by decide +kernel
theorem d_MO_row_103 : decode b_MO_row 103 = .ok (.iastore, 1) := by decide +kernel
theorem d_MO_row_104 : decode b_MO_row 104 = .ok (.aload_n 0, 1) := by decide +kernel
theorem d_MO_row_105 : decode b_MO_row 105 = .ok (.getfield 64, 3) := by decide +kernel
theorem d_MO_row_108 : decode b_MO_row 108 = .ok (.sipush 12001, 3) := by decide +kernel
theorem d_MO_row_111 : decode b_MO_row 111 = .ok (.iload_n 1, 1) := by decide +kernel
theorem d_MO_row_112 : decode b_MO_row 112 = .ok (.imul, 1) := by decide +kernel
theorem d_MO_row_113 : decode b_MO_row 113 = .ok (.iload 4, 2) := by decide +kernel
theorem d_MO_row_115 : decode b_MO_row 115 = .ok (.iadd, 1) := by decide +kernel
theorem d_MO_row_116 : decode b_MO_row 116 = .ok (.iaload, 1) := by decide +kernel
theorem d_MO_row_117 : decode b_MO_row 117 = .ok (.istore 4, 2) := by decide +kernel
theorem d_MO_row_119 : decode b_MO_row 119 = .ok (.iinc 6 (-1), 3) := by decide +kernel
theorem d_MO_row_122 : decode b_MO_row 122 = .ok (.goto (-45), 3) := by decide +kernel
theorem d_MO_row_125 : decode b_MO_row 125 = .ok (.aload_n 0, 1) := by decide +kernel
theorem d_MO_row_126 : decode b_MO_row 126 = .ok (.getfield 91, 3) := by decide +kernel
theorem d_MO_row_129 : decode b_MO_row 129 = .ok (.iload_n 3, 1) := by decide +kernel
theorem d_MO_row_130 : decode b_MO_row 130 = .ok (.iaload, 1) := by decide +kernel
theorem d_MO_row_131 : decode b_MO_row 131 = .ok (.ireturn, 1) := by decide +kernel
theorem d_MO_cuts_0 : decode b_MO_cuts 0 = .ok (.aload_n 0, 1) := by decide +kernel
theorem d_MO_cuts_1 : decode b_MO_cuts 1 = .ok (.iload_n 1, 1) := by decide +kernel
theorem d_MO_cuts_2 : decode b_MO_cuts 2 = .ok (.invokevirtual 176, 3) := by decide +kernel
theorem d_MO_cuts_5 : decode b_MO_cuts 5 = .ok (.ifCond .ne 5, 3) := by decide +kernel
theorem d_MO_cuts_8 : decode b_MO_cuts 8 = .ok (.iconst 0, 1) := by decide +kernel
theorem d_MO_cuts_9 : decode b_MO_cuts 9 = .ok (.ireturn, 1) := by decide +kernel
theorem d_MO_cuts_10 : decode b_MO_cuts 10 = .ok (.iconst 0, 1) := by decide +kernel
theorem d_MO_cuts_11 : decode b_MO_cuts 11 = .ok (.istore_n 2, 1) := by decide +kernel
theorem d_MO_cuts_12 : decode b_MO_cuts 12 = .ok (.iconst 0, 1) := by decide +kernel
theorem d_MO_cuts_13 : decode b_MO_cuts 13 = .ok (.istore_n 3, 1) := by decide +kernel
theorem d_MO_cuts_14 : decode b_MO_cuts 14 = .ok (.iload_n 3, 1) := by decide +kernel
theorem d_MO_cuts_15 : decode b_MO_cuts 15 = .ok (.sipush 256, 3) := by decide +kernel
theorem d_MO_cuts_18 : decode b_MO_cuts 18 = .ok (.if_icmp .ge 32, 3) := by decide +kernel
theorem d_MO_cuts_21 : decode b_MO_cuts 21 = .ok (.iload_n 2, 1) := by decide +kernel
theorem d_MO_cuts_22 : decode b_MO_cuts 22 = .ok (.aload_n 0, 1) := by decide +kernel
theorem d_MO_cuts_23 : decode b_MO_cuts 23 = .ok (.getfield 79, 3) := by decide +kernel
theorem d_MO_cuts_26 : decode b_MO_cuts 26 = .ok (.sipush 256, 3) := by decide +kernel
theorem d_MO_cuts_29 : decode b_MO_cuts 29 = .ok (.iload_n 1, 1) := by decide +kernel
theorem d_MO_cuts_30 : decode b_MO_cuts 30 = .ok (.imul, 1) := by decide +kernel
theorem d_MO_cuts_31 : decode b_MO_cuts 31 = .ok (.iload_n 3, 1) := by decide +kernel
theorem d_MO_cuts_32 : decode b_MO_cuts 32 = .ok (.iadd, 1) := by decide +kernel
theorem d_MO_cuts_33 : decode b_MO_cuts 33 = .ok (.baload, 1) := by decide +kernel
theorem d_MO_cuts_34 : decode b_MO_cuts 34 = .ok (.ifCond .eq 7, 3) := by decide +kernel
theorem d_MO_cuts_37 : decode b_MO_cuts 37 = .ok (.iconst 1, 1) := by decide +kernel
theorem d_MO_cuts_38 : decode b_MO_cuts 38 = .ok (.goto 4, 3) := by decide +kernel
theorem d_MO_cuts_41 : decode b_MO_cuts 41 = .ok (.iconst 0, 1) := by decide +kernel
theorem d_MO_cuts_42 : decode b_MO_cuts 42 = .ok (.iadd, 1) := by decide +kernel
theorem d_MO_cuts_43 : decode b_MO_cuts 43 = .ok (.istore_n 2, 1) := by decide +kernel
theorem d_MO_cuts_44 : decode b_MO_cuts 44 = .ok (.iinc 3 1, 3) := by decide +kernel
theorem d_MO_cuts_47 : decode b_MO_cuts 47 = .ok (.goto (-33), 3) := by decide +kernel
theorem d_MO_cuts_50 : decode b_MO_cuts 50 = .ok (.iload_n 2, 1) := by decide +kernel
theorem d_MO_cuts_51 : decode b_MO_cuts 51 = .ok (.ireturn, 1) := by decide +kernel
theorem d_MO_cut_0 : decode b_MO_cut 0 = .ok (.aload_n 0, 1) := by decide +kernel
theorem d_MO_cut_1 : decode b_MO_cut 1 = .ok (.iload_n 1, 1) := by decide +kernel
theorem d_MO_cut_2 : decode b_MO_cut 2 = .ok (.invokevirtual 176, 3) := by decide +kernel
theorem d_MO_cut_5 : decode b_MO_cut 5 = .ok (.ifCond .ne 5, 3) := by decide +kernel
theorem d_MO_cut_8 : decode b_MO_cut 8 = .ok (.iconst 0, 1) := by decide +kernel
theorem d_MO_cut_9 : decode b_MO_cut 9 = .ok (.ireturn, 1) := by decide +kernel
theorem d_MO_cut_10 : decode b_MO_cut 10 = .ok (.iconst 0, 1) := by decide +kernel
theorem d_MO_cut_11 : decode b_MO_cut 11 = .ok (.istore_n 3, 1) := by decide +kernel
theorem d_MO_cut_12 : decode b_MO_cut 12 = .ok (.iconst 0, 1) := by decide +kernel
theorem d_MO_cut_13 : decode b_MO_cut 13 = .ok (.istore 4, 2) := by decide +kernel
theorem d_MO_cut_15 : decode b_MO_cut 15 = .ok (.iload 4, 2) := by decide +kernel
theorem d_MO_cut_17 : decode b_MO_cut 17 = .ok (.sipush 256, 3) := by decide +kernel
theorem d_MO_cut_20 : decode b_MO_cut 20 = .ok (.if_icmp .ge 36, 3) := by decide +kernel
theorem d_MO_cut_23 : decode b_MO_cut 23 = .ok (.aload_n 0, 1) := by decide +kernel
theorem d_MO_cut_24 : decode b_MO_cut 24 = .ok (.getfield 79, 3) := by decide +kernel
theorem d_MO_cut_27 : decode b_MO_cut 27 = .ok (.sipush 256, 3) := by decide +kernel
theorem d_MO_cut_30 : decode b_MO_cut 30 = .ok (.iload_n 1, 1) := by decide +kernel
theorem d_MO_cut_31 : decode b_MO_cut 31 = .ok (.imul, 1) := by decide +kernel
theorem d_MO_cut_32 : decode b_MO_cut 32 = .ok (.iload 4, 2) := by decide +kernel
theorem d_MO_cut_34 : decode b_MO_cut 34 = .ok (.iadd, 1) := by decide +kernel
theorem d_MO_cut_35 : decode b_MO_cut 35 = .ok (.baload, 1) := by decide +kernel
theorem d_MO_cut_36 : decode b_MO_cut 36 = .ok (.ifCond .eq 14, 3) := by decide +kernel
theorem d_MO_cut_39 : decode b_MO_cut 39 = .ok (.iload_n 3, 1) := by decide +kernel
theorem d_MO_cut_40 : decode b_MO_cut 40 = .ok (.iload_n 2, 1) := by decide +kernel
theorem d_MO_cut_41 : decode b_MO_cut 41 = .ok (.if_icmp .ne 6, 3) := by decide +kernel
theorem d_MO_cut_44 : decode b_MO_cut 44 = .ok (.iload 4, 2) := by decide +kernel
theorem d_MO_cut_46 : decode b_MO_cut 46 = .ok (.ireturn, 1) := by decide +kernel
theorem d_MO_cut_47 : decode b_MO_cut 47 = .ok (.iinc 3 1, 3) := by decide +kernel
theorem d_MO_cut_50 : decode b_MO_cut 50 = .ok (.iinc 4 1, 3) := by decide +kernel
theorem d_MO_cut_53 : decode b_MO_cut 53 = .ok (.goto (-38), 3) := by decide +kernel
theorem d_MO_cut_56 : decode b_MO_cut 56 = .ok (.aload_n 0, 1) := by decide +kernel
theorem d_MO_cut_57 : decode b_MO_cut 57 = .ok (.iconst 3, 1) := by decide +kernel
theorem d_MO_cut_58 : decode b_MO_cut 58 = .ok (.invokevirtual 102, 3) := by decide +kernel
theorem d_MO_cut_61 : decode b_MO_cut 61 = .ok (.ireturn, 1) := by decide +kernel
theorem d_MO_has_0 : decode b_MO_has 0 = .ok (.iconst 0, 1) := by decide +kernel
theorem d_MO_has_1 : decode b_MO_has 1 = .ok (.istore 4, 2) := by decide +kernel
theorem d_MO_has_3 : decode b_MO_has 3 = .ok (.iconst 0, 1) := by decide +kernel
theorem d_MO_has_4 : decode b_MO_has 4 = .ok (.istore 5, 2) := by decide +kernel
theorem d_MO_has_6 : decode b_MO_has 6 = .ok (.iload 5, 2) := by decide +kernel
theorem d_MO_has_8 : decode b_MO_has 8 = .ok (.aload_n 0, 1) := by decide +kernel
theorem d_MO_has_9 : decode b_MO_has 9 = .ok (.getfield 53, 3) := by decide +kernel
theorem d_MO_has_12 : decode b_MO_has 12 = .ok (.iload_n 1, 1) := by decide +kernel
theorem d_MO_has_13 : decode b_MO_has 13 = .ok (.iaload, 1) := by decide +kernel
theorem d_MO_has_14 : decode b_MO_has 14 = .ok (.if_icmp .ge 39, 3) := by decide +kernel
theorem d_MO_has_17 : decode b_MO_has 17 = .ok (.iload 4, 2) := by decide +kernel
theorem d_MO_has_19 : decode b_MO_has 19 = .ok (.ifCond .ne 21, 3) := by decide +kernel
theorem d_MO_has_22 : decode b_MO_has 22 = .ok (.aload_n 0, 1) := by decide +kernel
theorem d_MO_has_23 : decode b_MO_has 23 = .ok (.getfield 76, 3) := by decide +kernel
theorem d_MO_has_26 : decode b_MO_has 26 = .ok (.sipush 12001, 3) := by decide +kernel
theorem d_MO_has_29 : decode b_MO_has 29 = .ok (.iload_n 1, 1) := by decide +kernel
theorem d_MO_has_30 : decode b_MO_has 30 = .ok (.imul, 1) := by decide +kernel
theorem d_MO_has_31 : decode b_MO_has 31 = .ok (.iload 5, 2) := by decide +kernel
theorem d_MO_has_33 : decode b_MO_has 33 = .ok (.iadd, 1) := by decide +kernel
theorem d_MO_has_34 : decode b_MO_has 34 = .ok (.laload, 1) := by decide +kernel
theorem d_MO_has_35 : decode b_MO_has 35 = .ok (.lload_n 2, 1) := by decide +kernel
theorem d_MO_has_36 : decode b_MO_has 36 = .ok (.lcmp, 1) := by decide +kernel
theorem d_MO_has_37 : decode b_MO_has 37 = .ok (.ifCond .ne 7, 3) := by decide +kernel
theorem d_MO_has_40 : decode b_MO_has 40 = .ok (.iconst 1, 1) := by decide +kernel
theorem d_MO_has_41 : decode b_MO_has 41 = .ok (.goto 4, 3) := by decide +kernel
theorem d_MO_has_44 : decode b_MO_has 44 = .ok (.iconst 0, 1) := by decide +kernel
theorem d_MO_has_45 : decode b_MO_has 45 = .ok (.istore 4, 2) := by decide +kernel
theorem d_MO_has_47 : decode b_MO_has 47 = .ok (.iinc 5 1, 3) := by decide +kernel
theorem d_MO_has_50 : decode b_MO_has 50 = .ok (.goto (-44), 3) := by decide +kernel
theorem d_MO_has_53 : decode b_MO_has 53 = .ok (.iload 4, 2) := by decide +kernel
theorem d_MO_has_55 : decode b_MO_has 55 = .ok (.ireturn, 1) := by decide +kernel
theorem d_MO_allows_0 : decode b_MO_allows 0 = .ok (.aload_n 0, 1) := by decide +kernel
theorem d_MO_allows_1 : decode b_MO_allows 1 = .ok (.iload_n 1, 1) := by decide +kernel
theorem d_MO_allows_2 : decode b_MO_allows 2 = .ok (.invokevirtual 176, 3) := by decide +kernel
theorem d_MO_allows_5 : decode b_MO_allows 5 = .ok (.ifCond .eq 16, 3) := by decide +kernel
theorem d_MO_allows_8 : decode b_MO_allows 8 = .ok (.aload_n 0, 1) := by decide +kernel
theorem d_MO_allows_9 : decode b_MO_allows 9 = .ok (.iload_n 1, 1) := by decide +kernel
theorem d_MO_allows_10 : decode b_MO_allows 10 = .ok (.lload_n 2, 1) := by decide +kernel
theorem d_MO_allows_11 : decode b_MO_allows 11 = .ok (.invokevirtual 180, 3) := by decide +kernel
theorem d_MO_allows_14 : decode b_MO_allows 14 = .ok (.ifCond .eq 7, 3) := by decide +kernel
theorem d_MO_allows_17 : decode b_MO_allows 17 = .ok (.iconst 1, 1) := by decide +kernel
theorem d_MO_allows_18 : decode b_MO_allows 18 = .ok (.goto 4, 3) := by decide +kernel
theorem d_MO_allows_21 : decode b_MO_allows 21 = .ok (.iconst 0, 1) := by decide +kernel
theorem d_MO_allows_22 : decode b_MO_allows 22 = .ok (.ireturn, 1) := by decide +kernel
theorem d_MO_firstAlone_0 : decode b_MO_firstAlone 0 = .ok (.iconst 0, 1) := by decide +kernel
theorem d_MO_firstAlone_1 : decode b_MO_firstAlone 1 = .ok (.istore_n 3, 1) := by decide +kernel
theorem d_MO_firstAlone_2 : decode b_MO_firstAlone 2 = .ok (.iload_n 3, 1) := by decide +kernel
theorem d_MO_firstAlone_3 : decode b_MO_firstAlone 3 = .ok (.aload_n 0, 1) := by decide +kernel
theorem d_MO_firstAlone_4 : decode b_MO_firstAlone 4 = .ok (.getfield 53, 3) := by decide +kernel
theorem d_MO_firstAlone_7 : decode b_MO_firstAlone 7 = .ok (.iload_n 1, 1) := by decide +kernel
theorem d_MO_firstAlone_8 : decode b_MO_firstAlone 8 = .ok (.iaload, 1) := by decide +kernel
theorem d_MO_firstAlone_9 : decode b_MO_firstAlone 9 = .ok (.if_icmp .ge 42, 3) := by decide +kernel
theorem d_MO_firstAlone_12 : decode b_MO_firstAlone 12 = .ok (.aload_n 0, 1) := by decide +kernel
theorem d_MO_firstAlone_13 : decode b_MO_firstAlone 13 = .ok (.iload_n 2, 1) := by decide +kernel
theorem d_MO_firstAlone_14 : decode b_MO_firstAlone 14 = .ok (.aload_n 0, 1) := by decide +kernel
theorem d_MO_firstAlone_15 : decode b_MO_firstAlone 15 = .ok (.getfield 76, 3) := by decide +kernel
theorem d_MO_firstAlone_18 : decode b_MO_firstAlone 18 = .ok (.sipush 12001, 3) := by decide +kernel
theorem d_MO_firstAlone_21 : decode b_MO_firstAlone 21 = .ok (.iload_n 1, 1) := by decide +kernel
theorem d_MO_firstAlone_22 : decode b_MO_firstAlone 22 = .ok (.imul, 1) := by decide +kernel
theorem d_MO_firstAlone_23 : decode b_MO_firstAlone 23 = .ok (.iload_n 3, 1) := by decide +kernel
theorem d_MO_firstAlone_24 : decode b_MO_firstAlone 24 = .ok (.iadd, 1) := by decide +kernel
theorem d_MO_firstAlone_25 : decode b_MO_firstAlone 25 = .ok (.laload, 1) := by decide +kernel
theorem d_MO_firstAlone_26 : decode b_MO_firstAlone 26 = .ok (.invokevirtual 180, 3) := by decide +kernel
theorem d_MO_firstAlone_29 : decode b_MO_firstAlone 29 = .ok (.ifCond .ne 16, 3) := by decide +kernel
theorem d_MO_firstAlone_32 : decode b_MO_firstAlone 32 = .ok (.aload_n 0, 1) := by decide +kernel
theorem d_MO_firstAlone_33 : decode b_MO_firstAlone 33 = .ok (.getfield 76, 3) := by decide +kernel
theorem d_MO_firstAlone_36 : decode b_MO_firstAlone 36 = .ok (.sipush 12001, 3) := by decide +kernel
theorem d_MO_firstAlone_39 : decode b_MO_firstAlone 39 = .ok (.iload_n 1, 1) := by decide +kernel
theorem d_MO_firstAlone_40 : decode b_MO_firstAlone 40 = .ok (.imul, 1) := by decide +kernel
theorem d_MO_firstAlone_41 : decode b_MO_firstAlone 41 = .ok (.iload_n 3, 1) := by decide +kernel
theorem d_MO_firstAlone_42 : decode b_MO_firstAlone 42 = .ok (.iadd, 1) := by decide +kernel
theorem d_MO_firstAlone_43 : decode b_MO_firstAlone 43 = .ok (.laload, 1) := by decide +kernel
theorem d_MO_firstAlone_44 : decode b_MO_firstAlone 44 = .ok (.lreturn, 1) := by decide +kernel
theorem d_MO_firstAlone_45 : decode b_MO_firstAlone 45 = .ok (.iinc 3 1, 3) := by decide +kernel
theorem d_MO_firstAlone_48 : decode b_MO_firstAlone 48 = .ok (.goto (-46), 3) := by decide +kernel
theorem d_MO_firstAlone_51 : decode b_MO_firstAlone 51 = .ok (.ldc2_w 184, 3) := by decide +kernel
theorem d_MO_firstAlone_54 : decode b_MO_firstAlone 54 = .ok (.lreturn, 1) := by decide +kernel
theorem d_MO_differs_0 : decode b_MO_differs 0 = .ok (.iload_n 1, 1) := by decide +kernel
theorem d_MO_differs_1 : decode b_MO_differs 1 = .ok (.iconst 0, 1) := by decide +kernel
theorem d_MO_differs_2 : decode b_MO_differs 2 = .ok (.iconst 3, 1) := by decide +kernel
theorem d_MO_differs_3 : decode b_MO_differs 3 = .ok (.invokestatic 98, 3) := by decide +kernel
theorem d_MO_differs_6 : decode b_MO_differs 6 = .ok (.ifCond .eq 12, 3) := by decide +kernel
theorem d_MO_differs_9 : decode b_MO_differs 9 = .ok (.iload_n 2, 1) := by decide +kernel
theorem d_MO_differs_10 : decode b_MO_differs 10 = .ok (.iconst 0, 1) := by decide +kernel
theorem d_MO_differs_11 : decode b_MO_differs 11 = .ok (.iconst 3, 1) := by decide +kernel
theorem d_MO_differs_12 : decode b_MO_differs 12 = .ok (.invokestatic 98, 3) := by decide +kernel
theorem d_MO_differs_15 : decode b_MO_differs 15 = .ok (.ifCond .ne 10, 3) := by decide +kernel
theorem d_MO_differs_18 : decode b_MO_differs 18 = .ok (.aload_n 0, 1) := by decide +kernel
theorem d_MO_differs_19 : decode b_MO_differs 19 = .ok (.iconst 1, 1) := by decide +kernel
theorem d_MO_differs_20 : decode b_MO_differs 20 = .ok (.putfield 94, 3) := by decide +kernel
theorem d_MO_differs_23 : decode b_MO_differs 23 = .ok (.lconst 0, 1) := by decide +kernel
theorem d_MO_differs_24 : decode b_MO_differs 24 = .ok (.lreturn, 1) := by decide +kernel
theorem d_MO_differs_25 : decode b_MO_differs 25 = .ok (.aload_n 0, 1) := by decide +kernel
theorem d_MO_differs_26 : decode b_MO_differs 26 = .ok (.iload_n 1, 1) := by decide +kernel
theorem d_MO_differs_27 : decode b_MO_differs 27 = .ok (.invokevirtual 176, 3) := by decide +kernel
theorem d_MO_differs_30 : decode b_MO_differs 30 = .ok (.ifCond .eq 11, 3) := by decide +kernel
theorem d_MO_differs_33 : decode b_MO_differs 33 = .ok (.aload_n 0, 1) := by decide +kernel
theorem d_MO_differs_34 : decode b_MO_differs 34 = .ok (.iload_n 2, 1) := by decide +kernel
theorem d_MO_differs_35 : decode b_MO_differs 35 = .ok (.invokevirtual 176, 3) := by decide +kernel
theorem d_MO_differs_38 : decode b_MO_differs 38 = .ok (.ifCond .ne 5, 3) := by decide +kernel
theorem d_MO_differs_41 : decode b_MO_differs 41 = .ok (.lconst 0, 1) := by decide +kernel
theorem d_MO_differs_42 : decode b_MO_differs 42 = .ok (.lreturn, 1) := by decide +kernel
theorem d_MO_differs_43 : decode b_MO_differs 43 = .ok (.aload_n 0, 1) := by decide +kernel
theorem d_MO_differs_44 : decode b_MO_differs 44 = .ok (.iload_n 1, 1) := by decide +kernel
theorem d_MO_differs_45 : decode b_MO_differs 45 = .ok (.iload_n 2, 1) := by decide +kernel
theorem d_MO_differs_46 : decode b_MO_differs 46 = .ok (.invokevirtual 186, 3) := by decide +kernel
theorem d_MO_differs_49 : decode b_MO_differs 49 = .ok (.lstore_n 3, 1) := by decide +kernel
theorem d_MO_differs_50 : decode b_MO_differs 50 = .ok (.aload_n 0, 1) := by decide +kernel
theorem d_MO_differs_51 : decode b_MO_differs 51 = .ok (.iload_n 2, 1) := by decide +kernel
theorem d_MO_differs_52 : decode b_MO_differs 52 = .ok (.iload_n 1, 1) := by decide +kernel
theorem d_MO_differs_53 : decode b_MO_differs 53 = .ok (.invokevirtual 186, 3) := by decide +kernel
theorem d_MO_differs_56 : decode b_MO_differs 56 = .ok (.lstore 5, 2) := by decide +kernel
theorem d_MO_differs_58 : decode b_MO_differs 58 = .ok (.lload_n 3, 1) := by decide +kernel
theorem d_MO_differs_59 : decode b_MO_differs 59 = .ok (.lconst 0, 1) := by decide +kernel
theorem d_MO_differs_60 : decode b_MO_differs 60 = .ok (.lcmp, 1) := by decide +kernel
theorem d_MO_differs_61 : decode b_MO_differs 61 = .ok (.ifCond .ge 8, 3) := by decide +kernel
theorem d_MO_differs_64 : decode b_MO_differs 64 = .ok (.lload 5, 2) := by decide +kernel
theorem d_MO_differs_66 : decode b_MO_differs 66 = .ok (.goto 23, 3) := by decide +kernel
theorem d_MO_differs_69 : decode b_MO_differs 69 = .ok (.lload 5, 2) := by decide +kernel
theorem d_MO_differs_71 : decode b_MO_differs 71 = .ok (.lconst 0, 1) := by decide +kernel
theorem d_MO_differs_72 : decode b_MO_differs 72 = .ok (.lcmp, 1) := by decide +kernel
theorem d_MO_differs_73 : decode b_MO_differs 73 = .ok (.ifCond .lt 10, 3) := by decide +kernel
theorem d_MO_differs_76 : decode b_MO_differs 76 = .ok (.lload_n 3, 1) := by decide +kernel
theorem d_MO_differs_77 : decode b_MO_differs 77 = .ok (.lload 5, 2) := by decide +kernel
theorem d_MO_differs_79 : decode b_MO_differs 79 = .ok (.lcmp, 1) := by decide +kernel
theorem d_MO_differs_80 : decode b_MO_differs 80 = .ok (.ifCond .ge 7, 3) := by decide +kernel
theorem d_MO_differs_83 : decode b_MO_differs 83 = .ok (.lload_n 3, 1) := by decide +kernel
theorem d_MO_differs_84 : decode b_MO_differs 84 = .ok (.goto 5, 3) := by decide +kernel
theorem d_MO_differs_87 : decode b_MO_differs 87 = .ok (.lload 5, 2) := by decide +kernel
theorem d_MO_differs_89 : decode b_MO_differs 89 = .ok (.lreturn, 1) := by decide +kernel
theorem d_MO_soonest_0 : decode b_MO_soonest 0 = .ok (.iload_n 1, 1) := by decide +kernel
theorem d_MO_soonest_1 : decode b_MO_soonest 1 = .ok (.iconst 0, 1) := by decide +kernel
theorem d_MO_soonest_2 : decode b_MO_soonest 2 = .ok (.iconst 3, 1) := by decide +kernel
theorem d_MO_soonest_3 : decode b_MO_soonest 3 = .ok (.invokestatic 98, 3) := by decide +kernel
theorem d_MO_soonest_6 : decode b_MO_soonest 6 = .ok (.ifCond .eq 21, 3) := by decide +kernel
theorem d_MO_soonest_9 : decode b_MO_soonest 9 = .ok (.iload_n 2, 1) := by decide +kernel
theorem d_MO_soonest_10 : decode b_MO_soonest 10 = .ok (.iconst 0, 1) := by decide +kernel
theorem d_MO_soonest_11 : decode b_MO_soonest 11 = .ok (.iconst 3, 1) := by decide +kernel
theorem d_MO_soonest_12 : decode b_MO_soonest 12 = .ok (.invokestatic 98, 3) := by decide +kernel
theorem d_MO_soonest_15 : decode b_MO_soonest 15 = .ok (.ifCond .eq 12, 3) := by decide +kernel
theorem d_MO_soonest_18 : decode b_MO_soonest 18 = .ok (.iload_n 3, 1) := by decide +kernel
theorem d_MO_soonest_19 : decode b_MO_soonest 19 = .ok (.iconst 0, 1) := by decide +kernel
theorem d_MO_soonest_20 : decode b_MO_soonest 20 = .ok (.iconst 3, 1) := by decide +kernel
theorem d_MO_soonest_21 : decode b_MO_soonest 21 = .ok (.invokestatic 98, 3) := by decide +kernel
theorem d_MO_soonest_24 : decode b_MO_soonest 24 = .ok (.ifCond .ne 9, 3) := by decide +kernel
theorem d_MO_soonest_27 : decode b_MO_soonest 27 = .ok (.aload_n 0, 1) := by decide +kernel
theorem d_MO_soonest_28 : decode b_MO_soonest 28 = .ok (.iconst 1, 1) := by decide +kernel
theorem d_MO_soonest_29 : decode b_MO_soonest 29 = .ok (.invokevirtual 102, 3) := by decide +kernel
theorem d_MO_soonest_32 : decode b_MO_soonest 32 = .ok (.ireturn, 1) := by decide +kernel
theorem d_MO_soonest_33 : decode b_MO_soonest 33 = .ok (.aload_n 0, 1) := by decide +kernel
theorem d_MO_soonest_34 : decode b_MO_soonest 34 = .ok (.iload_n 1, 1) := by decide +kernel
theorem d_MO_soonest_35 : decode b_MO_soonest 35 = .ok (.invokevirtual 176, 3) := by decide +kernel
theorem d_MO_soonest_38 : decode b_MO_soonest 38 = .ok (.ifCond .eq 21, 3) := by decide +kernel
theorem d_MO_soonest_41 : decode b_MO_soonest 41 = .ok (.aload_n 0, 1) := by decide +kernel
theorem d_MO_soonest_42 : decode b_MO_soonest 42 = .ok (.getfield 82, 3) := by decide +kernel
theorem d_MO_soonest_45 : decode b_MO_soonest 45 = .ok (.bipush 16, 2) := by decide +kernel
theorem d_MO_soonest_47 : decode b_MO_soonest 47 = .ok (.iload_n 1, 1) := by decide +kernel
theorem d_MO_soonest_48 : decode b_MO_soonest 48 = .ok (.imul, 1) := by decide +kernel
theorem d_MO_soonest_49 : decode b_MO_soonest 49 = .ok (.iconst 4, 1) := by decide +kernel
theorem d_MO_soonest_50 : decode b_MO_soonest 50 = .ok (.iload_n 2, 1) := by decide +kernel
theorem d_MO_soonest_51 : decode b_MO_soonest 51 = .ok (.imul, 1) := by decide +kernel
theorem d_MO_soonest_52 : decode b_MO_soonest 52 = .ok (.iadd, 1) := by decide +kernel
theorem d_MO_soonest_53 : decode b_MO_soonest 53 = .ok (.iload_n 3, 1) := by decide +kernel
theorem d_MO_soonest_54 : decode b_MO_soonest 54 = .ok (.iadd, 1) := by decide +kernel
theorem d_MO_soonest_55 : decode b_MO_soonest 55 = .ok (.iaload, 1) := by decide +kernel
theorem d_MO_soonest_56 : decode b_MO_soonest 56 = .ok (.goto 4, 3) := by decide +kernel
theorem d_MO_soonest_59 : decode b_MO_soonest 59 = .ok (.iconst 0, 1) := by decide +kernel
theorem d_MO_soonest_60 : decode b_MO_soonest 60 = .ok (.ireturn, 1) := by decide +kernel
theorem d_MO_stuck_0 : decode b_MO_stuck 0 = .ok (.aload_n 0, 1) := by decide +kernel
theorem d_MO_stuck_1 : decode b_MO_stuck 1 = .ok (.iload_n 1, 1) := by decide +kernel
theorem d_MO_stuck_2 : decode b_MO_stuck 2 = .ok (.invokevirtual 176, 3) := by decide +kernel
theorem d_MO_stuck_5 : decode b_MO_stuck 5 = .ok (.ifCond .eq 12, 3) := by decide +kernel
theorem d_MO_stuck_8 : decode b_MO_stuck 8 = .ok (.aload_n 0, 1) := by decide +kernel
theorem d_MO_stuck_9 : decode b_MO_stuck 9 = .ok (.getfield 50, 3) := by decide +kernel
theorem d_MO_stuck_12 : decode b_MO_stuck 12 = .ok (.iload_n 1, 1) := by decide +kernel
theorem d_MO_stuck_13 : decode b_MO_stuck 13 = .ok (.iaload, 1) := by decide +kernel
theorem d_MO_stuck_14 : decode b_MO_stuck 14 = .ok (.goto 4, 3) := by decide +kernel
theorem d_MO_stuck_17 : decode b_MO_stuck 17 = .ok (.iconst 0, 1) := by decide +kernel
theorem d_MO_stuck_18 : decode b_MO_stuck 18 = .ok (.ireturn, 1) := by decide +kernel
theorem d_MO_count_0 : decode b_MO_count 0 = .ok (.aload_n 0, 1) := by decide +kernel
theorem d_MO_count_1 : decode b_MO_count 1 = .ok (.iconst 0, 1) := by decide +kernel
theorem d_MO_count_2 : decode b_MO_count 2 = .ok (.putfield 94, 3) := by decide +kernel
theorem d_MO_count_5 : decode b_MO_count 5 = .ok (.iload_n 1, 1) := by decide +kernel
theorem d_MO_count_6 : decode b_MO_count 6 = .ok (.iconst 0, 1) := by decide +kernel
theorem d_MO_count_7 : decode b_MO_count 7 = .ok (.iconst 5, 1) := by decide +kernel
theorem d_MO_count_8 : decode b_MO_count 8 = .ok (.invokestatic 98, 3) := by decide +kernel
theorem d_MO_count_11 : decode b_MO_count 11 = .ok (.ifCond .ne 5, 3) := by decide +kernel
theorem d_MO_count_14 : decode b_MO_count 14 = .ok (.iconst (-1), 1) := by decide +kernel
theorem d_MO_count_15 : decode b_MO_count 15 = .ok (.ireturn, 1) := by decide +kernel
theorem d_MO_count_16 : decode b_MO_count 16 = .ok (.iconst 0, 1) := by decide +kernel
theorem d_MO_count_17 : decode b_MO_count 17 = .ok (.istore_n 2, 1) := by decide +kernel
theorem d_MO_count_18 : decode b_MO_count 18 = .ok (.iconst 0, 1) := by decide +kernel
theorem d_MO_count_19 : decode b_MO_count 19 = .ok (.istore_n 3, 1) := by decide +kernel
theorem d_MO_count_20 : decode b_MO_count 20 = .ok (.iload_n 3, 1) := by decide +kernel
theorem d_MO_count_21 : decode b_MO_count 21 = .ok (.iconst 4, 1) := by decide +kernel
theorem d_MO_count_22 : decode b_MO_count 22 = .ok (.if_icmp .ge 119, 3) := by decide +kernel
theorem d_MO_count_25 : decode b_MO_count 25 = .ok (.iload_n 2, 1) := by decide +kernel
theorem d_MO_count_26 : decode b_MO_count 26 = .ok (.iload_n 1, 1) := by decide +kernel
theorem d_MO_count_27 : decode b_MO_count 27 = .ok (.ifCond .ne 12, 3) := by decide +kernel
theorem d_MO_count_30 : decode b_MO_count 30 = .ok (.aload_n 0, 1) := by decide +kernel
theorem d_MO_count_31 : decode b_MO_count 31 = .ok (.getfield 7, 3) := by decide +kernel
theorem d_MO_count_34 : decode b_MO_count 34 = .ok (.iload_n 3, 1) := by decide +kernel
theorem d_MO_count_35 : decode b_MO_count 35 = .ok (.iaload, 1) := by decide +kernel
theorem d_MO_count_36 : decode b_MO_count 36 = .ok (.goto 22, 3) := by decide +kernel
theorem d_MO_count_39 : decode b_MO_count 39 = .ok (.iload_n 1, 1) := by decide +kernel
theorem d_MO_count_40 : decode b_MO_count 40 = .ok (.iconst 1, 1) := by decide +kernel
theorem d_MO_count_41 : decode b_MO_count 41 = .ok (.if_icmp .ne 16, 3) := by decide +kernel
theorem d_MO_count_44 : decode b_MO_count 44 = .ok (.aload_n 0, 1) := by decide +kernel
theorem d_MO_count_45 : decode b_MO_count 45 = .ok (.getfield 7, 3) := by decide +kernel
theorem d_MO_count_48 : decode b_MO_count 48 = .ok (.iload_n 3, 1) := by decide +kernel
theorem d_MO_count_49 : decode b_MO_count 49 = .ok (.iaload, 1) := by decide +kernel
theorem d_MO_count_50 : decode b_MO_count 50 = .ok (.ifCond .le 7, 3) := by decide +kernel
theorem d_MO_count_53 : decode b_MO_count 53 = .ok (.iconst 1, 1) := by decide +kernel
theorem d_MO_count_54 : decode b_MO_count 54 = .ok (.goto 4, 3) := by decide +kernel
theorem d_MO_count_57 : decode b_MO_count 57 = .ok (.iconst 0, 1) := by decide +kernel
theorem d_MO_count_58 : decode b_MO_count 58 = .ok (.iadd, 1) := by decide +kernel
theorem d_MO_count_59 : decode b_MO_count 59 = .ok (.istore_n 2, 1) := by decide +kernel
theorem d_MO_count_60 : decode b_MO_count 60 = .ok (.iconst 0, 1) := by decide +kernel
theorem d_MO_count_61 : decode b_MO_count 61 = .ok (.istore 4, 2) := by decide +kernel
theorem d_MO_count_63 : decode b_MO_count 63 = .ok (.iload 4, 2) := by decide +kernel
theorem d_MO_count_65 : decode b_MO_count 65 = .ok (.aload_n 0, 1) := by decide +kernel
theorem d_MO_count_66 : decode b_MO_count 66 = .ok (.getfield 7, 3) := by decide +kernel
theorem d_MO_count_69 : decode b_MO_count 69 = .ok (.iload_n 3, 1) := by decide +kernel
theorem d_MO_count_70 : decode b_MO_count 70 = .ok (.iaload, 1) := by decide +kernel
theorem d_MO_count_71 : decode b_MO_count 71 = .ok (.if_icmp .ge 64, 3) := by decide +kernel
theorem d_MO_count_74 : decode b_MO_count 74 = .ok (.iload_n 1, 1) := by decide +kernel
theorem d_MO_count_75 : decode b_MO_count 75 = .ok (.iconst 1, 1) := by decide +kernel
theorem d_MO_count_76 : decode b_MO_count 76 = .ok (.if_icmp .le 59, 3) := by decide +kernel
theorem d_MO_count_79 : decode b_MO_count 79 = .ok (.iload_n 2, 1) := by decide +kernel
theorem d_MO_count_80 : decode b_MO_count 80 = .ok (.aload_n 0, 1) := by decide +kernel
theorem d_MO_count_81 : decode b_MO_count 81 = .ok (.getfield 13, 3) := by decide +kernel
theorem d_MO_count_84 : decode b_MO_count 84 = .ok (.iconst 5, 1) := by decide +kernel
theorem d_MO_count_85 : decode b_MO_count 85 = .ok (.iload_n 3, 1) := by decide +kernel
theorem d_MO_count_86 : decode b_MO_count 86 = .ok (.imul, 1) := by decide +kernel
theorem d_MO_count_87 : decode b_MO_count 87 = .ok (.iload 4, 2) := by decide +kernel
theorem d_MO_count_89 : decode b_MO_count 89 = .ok (.iadd, 1) := by decide +kernel
theorem d_MO_count_90 : decode b_MO_count 90 = .ok (.iaload, 1) := by decide +kernel
theorem d_MO_count_91 : decode b_MO_count 91 = .ok (.iload_n 1, 1) := by decide +kernel
theorem d_MO_count_92 : decode b_MO_count 92 = .ok (.iconst 2, 1) := by decide +kernel
theorem d_MO_count_93 : decode b_MO_count 93 = .ok (.if_icmp .ne 7, 3) := by decide +kernel
theorem d_MO_count_96 : decode b_MO_count 96 = .ok (.iconst 0, 1) := by decide +kernel
theorem d_MO_count_97 : decode b_MO_count 97 = .ok (.goto 22, 3) := by decide +kernel
theorem d_MO_count_100 : decode b_MO_count 100 = .ok (.iload_n 1, 1) := by decide +kernel
theorem d_MO_count_101 : decode b_MO_count 101 = .ok (.iconst 3, 1) := by decide +kernel
theorem d_MO_count_102 : decode b_MO_count 102 = .ok (.if_icmp .ne 7, 3) := by decide +kernel
theorem d_MO_count_105 : decode b_MO_count 105 = .ok (.iconst 1, 1) := by decide +kernel
theorem d_MO_count_106 : decode b_MO_count 106 = .ok (.goto 13, 3) := by decide +kernel
theorem d_MO_count_109 : decode b_MO_count 109 = .ok (.iload_n 1, 1) := by decide +kernel
theorem d_MO_count_110 : decode b_MO_count 110 = .ok (.iconst 4, 1) := by decide +kernel
theorem d_MO_count_111 : decode b_MO_count 111 = .ok (.if_icmp .ne 7, 3) := by decide +kernel
theorem d_MO_count_114 : decode b_MO_count 114 = .ok (.iconst 2, 1) := by decide +kernel
theorem d_MO_count_115 : decode b_MO_count 115 = .ok (.goto 4, 3) := by decide +kernel
theorem d_MO_count_118 : decode b_MO_count 118 = .ok (.iconst 3, 1) := by decide +kernel
theorem d_MO_count_119 : decode b_MO_count 119 = .ok (.if_icmp .ne 7, 3) := by decide +kernel
theorem d_MO_count_122 : decode b_MO_count 122 = .ok (.iconst 1, 1) := by decide +kernel
theorem d_MO_count_123 : decode b_MO_count 123 = .ok (.goto 4, 3) := by decide +kernel
theorem d_MO_count_126 : decode b_MO_count 126 = .ok (.iconst 0, 1) := by decide +kernel
theorem d_MO_count_127 : decode b_MO_count 127 = .ok (.iadd, 1) := by decide +kernel
theorem d_MO_count_128 : decode b_MO_count 128 = .ok (.istore_n 2, 1) := by decide +kernel
theorem d_MO_count_129 : decode b_MO_count 129 = .ok (.iinc 4 1, 3) := by decide +kernel
theorem d_MO_count_132 : decode b_MO_count 132 = .ok (.goto (-69), 3) := by decide +kernel
theorem d_MO_count_135 : decode b_MO_count 135 = .ok (.iinc 3 1, 3) := by decide +kernel
theorem d_MO_count_138 : decode b_MO_count 138 = .ok (.goto (-118), 3) := by decide +kernel
theorem d_MO_count_141 : decode b_MO_count 141 = .ok (.iload_n 2, 1) := by decide +kernel
theorem d_MO_count_142 : decode b_MO_count 142 = .ok (.ireturn, 1) := by decide +kernel
