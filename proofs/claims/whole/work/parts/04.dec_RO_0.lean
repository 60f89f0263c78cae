theorem d_RO_init_0 : decode b_RO_init 0 = .ok (.aload_n 0, 1) := by decide +kernel
theorem d_RO_init_1 : decode b_RO_init 1 = .ok (.invokespecial 3, 3) := by decide +kernel
theorem d_RO_init_4 : decode b_RO_init 4 = .ok (.aload_n 0, 1) := by decide +kernel
theorem d_RO_init_5 : decode b_RO_init 5 = .ok (.sipush 256, 3) := by decide +kernel
theorem d_RO_init_8 : decode b_RO_init 8 = .ok (.newarray .long, 2) := by decide +kernel
theorem d_RO_init_10 : decode b_RO_init 10 = .ok (.putfield 11, 3) := by decide +kernel
theorem d_RO_init_13 : decode b_RO_init 13 = .ok (.aload_n 0, 1) := by decide +kernel
theorem d_RO_init_14 : decode b_RO_init 14 = .ok (.sipush 256, 3) := by decide +kernel
theorem d_RO_init_17 : decode b_RO_init 17 = .ok (.newarray .long, 2) := by decide +kernel
theorem d_RO_init_19 : decode b_RO_init 19 = .ok (.putfield 15, 3) := by decide +kernel
theorem d_RO_init_22 : decode b_RO_init 22 = .ok (.aload_n 0, 1) := by decide +kernel
theorem d_RO_init_23 : decode b_RO_init 23 = .ok (.sipush 512, 3) := by decide +kernel
theorem d_RO_init_26 : decode b_RO_init 26 = .ok (.newarray .int, 2) := by decide +kernel
theorem d_RO_init_28 : decode b_RO_init 28 = .ok (.putfield 18, 3) := by decide +kernel
theorem d_RO_init_31 : decode b_RO_init 31 = .ok (.aload_n 0, 1) := by decide +kernel
theorem d_RO_init_32 : decode b_RO_init 32 = .ok (.sipush 511, 3) := by decide +kernel
theorem d_RO_init_35 : decode b_RO_init 35 = .ok (.putfield 22, 3) := by decide +kernel
theorem d_RO_init_38 : decode b_RO_init 38 = .ok (.aload_n 0, 1) := by decide +kernel
theorem d_RO_init_39 : decode b_RO_init 39 = .ok (.iconst 0, 1) := by decide +kernel
theorem d_RO_init_40 : decode b_RO_init 40 = .ok (.putfield 26, 3) := by decide +kernel
theorem d_RO_init_43 : decode b_RO_init 43 = .ok (.aload_n 0, 1) := by decide +kernel
theorem d_RO_init_44 : decode b_RO_init 44 = .ok (.iconst 0, 1) := by decide +kernel
theorem d_RO_init_45 : decode b_RO_init 45 = .ok (.putfield 29, 3) := by decide +kernel
theorem d_RO_init_48 : decode b_RO_init 48 = .ok (.return_, 1) := by decide +kernel
theorem d_RO_empty_0 : decode b_RO_empty 0 = .ok (.aload_n 0, 1) := by decide +kernel
theorem d_RO_empty_1 : decode b_RO_empty 1 = .ok (.sipush 511, 3) := by decide +kernel
theorem d_RO_empty_4 : decode b_RO_empty 4 = .ok (.putfield 22, 3) := by decide +kernel
theorem d_RO_empty_7 : decode b_RO_empty 7 = .ok (.aload_n 0, 1) := by decide +kernel
theorem d_RO_empty_8 : decode b_RO_empty 8 = .ok (.getfield 18, 3) := by decide +kernel
theorem d_RO_empty_11 : decode b_RO_empty 11 = .ok (.iconst 0, 1) := by decide +kernel
theorem d_RO_empty_12 : decode b_RO_empty 12 = .ok (.sipush 512, 3) := by decide +kernel
theorem d_RO_empty_15 : decode b_RO_empty 15 = .ok (.iconst 0, 1) := by decide +kernel
theorem d_RO_empty_16 : decode b_RO_empty 16 = .ok (.invokestatic 33, 3) := by decide +kernel
theorem d_RO_empty_19 : decode b_RO_empty 19 = .ok (.aload_n 0, 1) := by decide +kernel
theorem d_RO_empty_20 : decode b_RO_empty 20 = .ok (.iconst 0, 1) := by decide +kernel
theorem d_RO_empty_21 : decode b_RO_empty 21 = .ok (.putfield 26, 3) := by decide +kernel
theorem d_RO_empty_24 : decode b_RO_empty 24 = .ok (.aload_n 0, 1) := by decide +kernel
theorem d_RO_empty_25 : decode b_RO_empty 25 = .ok (.iconst 0, 1) := by decide +kernel
theorem d_RO_empty_26 : decode b_RO_empty 26 = .ok (.putfield 29, 3) := by decide +kernel
theorem d_RO_empty_29 : decode b_RO_empty 29 = .ok (.return_, 1) := by decide +kernel
theorem d_RO_add_0 : decode b_RO_add 0 = .ok (.aload_n 0, 1) := by decide +kernel
theorem d_RO_add_1 : decode b_RO_add 1 = .ok (.lload_n 1, 1) := by decide +kernel
theorem d_RO_add_2 : decode b_RO_add 2 = .ok (.lload_n 3, 1) := by decide +kernel
theorem d_RO_add_3 : decode b_RO_add 3 = .ok (.invokevirtual 39, 3) := by decide +kernel
theorem d_RO_add_6 : decode b_RO_add 6 = .ok (.istore 5, 2) := by decide +kernel
theorem d_RO_add_8 : decode b_RO_add 8 = .ok (.iload 5, 2) := by decide +kernel
theorem d_RO_add_10 : decode b_RO_add 10 = .ok (.iconst (-1), 1) := by decide +kernel
theorem d_RO_add_11 : decode b_RO_add 11 = .ok (.if_icmp .eq 13, 3) := by decide +kernel
theorem d_RO_add_14 : decode b_RO_add 14 = .ok (.aload_n 0, 1) := by decide +kernel
theorem d_RO_add_15 : decode b_RO_add 15 = .ok (.getfield 18, 3) := by decide +kernel
theorem d_RO_add_18 : decode b_RO_add 18 = .ok (.iload 5, 2) := by decide +kernel
theorem d_RO_add_20 : decode b_RO_add 20 = .ok (.iaload, 1) := by decide +kernel
theorem d_RO_add_21 : decode b_RO_add 21 = .ok (.ifCond .eq 5, 3) := by decide +kernel
theorem d_RO_add_24 : decode b_RO_add 24 = .ok (.iconst 0, 1) := by decide +kernel
theorem d_RO_add_25 : decode b_RO_add 25 = .ok (.ireturn, 1) := by decide +kernel
theorem d_RO_add_26 : decode b_RO_add 26 = .ok (.aload_n 0, 1) := by decide +kernel
theorem d_RO_add_27 : decode b_RO_add 27 = .ok (.getfield 26, 3) := by decide +kernel
theorem d_RO_add_30 : decode b_RO_add 30 = .ok (.aload_n 0, 1) := by decide +kernel
theorem d_RO_add_31 : decode b_RO_add 31 = .ok (.getfield 11, 3) := by decide +kernel
theorem d_RO_add_34 : decode b_RO_add 34 = .ok (.arraylength, 1) := by decide +kernel
theorem d_RO_add_35 : decode b_RO_add 35 = .ok (.if_icmp .lt 10, 3) := by decide +kernel
theorem d_RO_add_38 : decode b_RO_add 38 = .ok (.aload_n 0, 1) := by decide +kernel
theorem d_RO_add_39 : decode b_RO_add 39 = .ok (.iconst 1, 1) := by decide +kernel
theorem d_RO_add_40 : decode b_RO_add 40 = .ok (.putfield 29, 3) := by decide +kernel
theorem d_RO_add_43 : decode b_RO_add 43 = .ok (.iconst 0, 1) := by decide +kernel
theorem d_RO_add_44 : decode b_RO_add 44 = .ok (.ireturn, 1) := by decide +kernel
theorem d_RO_add_45 : decode b_RO_add 45 = .ok (.aload_n 0, 1) := by decide +kernel
theorem d_RO_add_46 : decode b_RO_add 46 = .ok (.getfield 11, 3) := by decide +kernel
theorem d_RO_add_49 : decode b_RO_add 49 = .ok (.aload_n 0, 1) := by decide +kernel
theorem d_RO_add_50 : decode b_RO_add 50 = .ok (.getfield 26, 3) := by decide +kernel
theorem d_RO_add_53 : decode b_RO_add 53 = .ok (.lload_n 1, 1) := by decide +kernel
theorem d_RO_add_54 : decode b_RO_add 54 = .ok (.lastore, 1) := by decide +kernel
theorem d_RO_add_55 : decode b_RO_add 55 = .ok (.aload_n 0, 1) := by decide +kernel
theorem d_RO_add_56 : decode b_RO_add 56 = .ok (.getfield 15, 3) := by decide +kernel
theorem d_RO_add_59 : decode b_RO_add 59 = .ok (.aload_n 0, 1) := by decide +kernel
theorem d_RO_add_60 : decode b_RO_add 60 = .ok (.getfield 26, 3) := by decide +kernel
theorem d_RO_add_63 : decode b_RO_add 63 = .ok (.lload_n 3, 1) := by decide +kernel
theorem d_RO_add_64 : decode b_RO_add 64 = .ok (.lastore, 1) := by decide +kernel
theorem d_RO_add_65 : decode b_RO_add 65 = .ok (.aload_n 0, 1) := by decide +kernel
theorem d_RO_add_66 : decode b_RO_add 66 = .ok (.dup, 1) := by decide +kernel
theorem d_RO_add_67 : decode b_RO_add 67 = .ok (.getfield 26, 3) := by decide +kernel
theorem d_RO_add_70 : decode b_RO_add 70 = .ok (.iconst 1, 1) := by decide +kernel
theorem d_RO_add_71 : decode b_RO_add 71 = .ok (.iadd, 1) := by decide +kernel
theorem d_RO_add_72 : decode b_RO_add 72 = .ok (.putfield 26, 3) := by decide +kernel
theorem d_RO_add_75 : decode b_RO_add 75 = .ok (.aload_n 0, 1) := by decide +kernel
theorem d_RO_add_76 : decode b_RO_add 76 = .ok (.getfield 18, 3) := by decide +kernel
theorem d_RO_add_79 : decode b_RO_add 79 = .ok (.iload 5, 2) := by decide +kernel
theorem d_RO_add_81 : decode b_RO_add 81 = .ok (.aload_n 0, 1) := by decide +kernel
theorem d_RO_add_82 : decode b_RO_add 82 = .ok (.getfield 26, 3) := by decide +kernel
theorem d_RO_add_85 : decode b_RO_add 85 = .ok (.iastore, 1) := by decide +kernel
theorem d_RO_add_86 : decode b_RO_add 86 = .ok (.aload_n 0, 1) := by decide +kernel
theorem d_RO_add_87 : decode b_RO_add 87 = .ok (.getfield 26, 3) := by decide +kernel
theorem d_RO_add_90 : decode b_RO_add 90 = .ok (.iconst 2, 1) := by decide +kernel
theorem d_RO_add_91 : decode b_RO_add 91 = .ok (.imul, 1) := by decide +kernel
theorem d_RO_add_92 : decode b_RO_add 92 = .ok (.aload_n 0, 1) := by decide +kernel
theorem d_RO_add_93 : decode b_RO_add 93 = .ok (.getfield 22, 3) := by decide +kernel
theorem d_RO_add_96 : decode b_RO_add 96 = .ok (.if_icmp .le 7, 3) := by decide +kernel
theorem d_RO_add_99 : decode b_RO_add 99 = .ok (.aload_n 0, 1) := by decide +kernel
theorem d_RO_add_100 : decode b_RO_add 100 = .ok (.invokevirtual 43, 3) := by decide +kernel
theorem d_RO_add_103 : decode b_RO_add 103 = .ok (.iconst 1, 1) := by decide +kernel
theorem d_RO_add_104 : decode b_RO_add 104 = .ok (.ireturn, 1) := by decide +kernel
theorem d_RO_slotOf_0 : decode b_RO_slotOf 0 = .ok (.lload_n 1, 1) := by decide +kernel
theorem d_RO_slotOf_1 : decode b_RO_slotOf 1 = .ok (.ldc2_w 46, 3) := by decide +kernel
theorem d_RO_slotOf_4 : decode b_RO_slotOf 4 = .ok (.lmul, 1) := by decide +kernel
theorem d_RO_slotOf_5 : decode b_RO_slotOf 5 = .ok (.lload_n 3, 1) := by decide +kernel
theorem d_RO_slotOf_6 : decode b_RO_slotOf 6 = .ok (.ldc2_w 48, 3) := by decide +kernel
theorem d_RO_slotOf_9 : decode b_RO_slotOf 9 = .ok (.lmul, 1) := by decide +kernel
theorem d_RO_slotOf_10 : decode b_RO_slotOf 10 = .ok (.ladd, 1) := by decide +kernel
theorem d_RO_slotOf_11 : decode b_RO_slotOf 11 = .ok (.lstore 5, 2) := by decide +kernel
theorem d_RO_slotOf_13 : decode b_RO_slotOf 13 = .ok (.lload 5, 2) := by decide +kernel
theorem d_RO_slotOf_15 : decode b_RO_slotOf 15 = .ok (.lload 5, 2) := by decide +kernel
theorem d_RO_slotOf_17 : decode b_RO_slotOf 17 = .ok (.bipush 32, 2) := by decide +kernel
theorem d_RO_slotOf_19 : decode b_RO_slotOf 19 = .ok (.lushr, 1) := by decide +kernel
theorem d_RO_slotOf_20 : decode b_RO_slotOf 20 = .ok (.lxor, 1) := by decide +kernel
theorem d_RO_slotOf_21 : decode b_RO_slotOf 21 = .ok (.ldc2_w 46, 3) := by decide +kernel
theorem d_RO_slotOf_24 : decode b_RO_slotOf 24 = .ok (.lmul, 1) := by decide +kernel
theorem d_RO_slotOf_25 : decode b_RO_slotOf 25 = .ok (.lstore 5, 2) := by decide +kernel
theorem d_RO_slotOf_27 : decode b_RO_slotOf 27 = .ok (.lload 5, 2) := by decide +kernel
theorem d_RO_slotOf_29 : decode b_RO_slotOf 29 = .ok (.bipush 32, 2) := by decide +kernel
theorem d_RO_slotOf_31 : decode b_RO_slotOf 31 = .ok (.lushr, 1) := by decide +kernel
theorem d_RO_slotOf_32 : decode b_RO_slotOf 32 = .ok (.l2i, 1) := by decide +kernel
theorem d_RO_slotOf_33 : decode b_RO_slotOf 33 = .ok (.aload_n 0, 1) := by decide +kernel
theorem d_RO_slotOf_34 : decode b_RO_slotOf 34 = .ok (.getfield 22, 3) := by decide +kernel
theorem d_RO_slotOf_37 : decode b_RO_slotOf 37 = .ok (.iand, 1) := by decide +kernel
theorem d_RO_slotOf_38 : decode b_RO_slotOf 38 = .ok (.istore 7, 2) := by decide +kernel
theorem d_RO_slotOf_40 : decode b_RO_slotOf 40 = .ok (.iconst 0, 1) := by decide +kernel
theorem d_RO_slotOf_41 : decode b_RO_slotOf 41 = .ok (.istore 8, 2) := by decide +kernel
theorem d_RO_slotOf_43 : decode b_RO_slotOf 43 = .ok (.iload 8, 2) := by decide +kernel
theorem d_RO_slotOf_45 : decode b_RO_slotOf 45 = .ok (.aload_n 0, 1) := by decide +kernel
theorem d_RO_slotOf_46 : decode b_RO_slotOf 46 = .ok (.getfield 22, 3) := by decide +kernel
theorem d_RO_slotOf_49 : decode b_RO_slotOf 49 = .ok (.if_icmp .gt 63, 3) := by decide +kernel
theorem d_RO_slotOf_52 : decode b_RO_slotOf 52 = .ok (.aload_n 0, 1) := by decide +kernel
theorem d_RO_slotOf_53 : decode b_RO_slotOf 53 = .ok (.getfield 18, 3) := by decide +kernel
theorem d_RO_slotOf_56 : decode b_RO_slotOf 56 = .ok (.iload 7, 2) := by decide +kernel
theorem d_RO_slotOf_58 : decode b_RO_slotOf 58 = .ok (.iaload, 1) := by decide +kernel
theorem d_RO_slotOf_59 : decode b_RO_slotOf 59 = .ok (.iconst 1, 1) := by decide +kernel
theorem d_RO_slotOf_60 : decode b_RO_slotOf 60 = .ok (.isub, 1) := by decide +kernel
theorem d_RO_slotOf_61 : decode b_RO_slotOf 61 = .ok (.istore 9, 2) := by decide +kernel
theorem d_RO_slotOf_63 : decode b_RO_slotOf 63 = .ok (.iload 9, 2) := by decide +kernel
theorem d_RO_slotOf_65 : decode b_RO_slotOf 65 = .ok (.ifCond .lt 27, 3) := by decide +kernel
theorem d_RO_slotOf_68 : decode b_RO_slotOf 68 = .ok (.aload_n 0, 1) := by decide +kernel
theorem d_RO_slotOf_69 : decode b_RO_slotOf 69 = .ok (.getfield 11, 3) := by decide +kernel
theorem d_RO_slotOf_72 : decode b_RO_slotOf 72 = .ok (.iload 9, 2) := by decide +kernel
theorem d_RO_slotOf_74 : decode b_RO_slotOf 74 = .ok (.laload, 1) := by decide +kernel
theorem d_RO_slotOf_75 : decode b_RO_slotOf 75 = .ok (.lload_n 1, 1) := by decide +kernel
theorem d_RO_slotOf_76 : decode b_RO_slotOf 76 = .ok (.lcmp, 1) := by decide +kernel
theorem d_RO_slotOf_77 : decode b_RO_slotOf 77 = .ok (.ifCond .ne 18, 3) := by decide +kernel
theorem d_RO_slotOf_80 : decode b_RO_slotOf 80 = .ok (.aload_n 0, 1) := by decide +kernel
theorem d_RO_slotOf_81 : decode b_RO_slotOf 81 = .ok (.getfield 15, 3) := by decide +kernel
theorem d_RO_slotOf_84 : decode b_RO_slotOf 84 = .ok (.iload 9, 2) := by decide +kernel
theorem d_RO_slotOf_86 : decode b_RO_slotOf 86 = .ok (.laload, 1) := by decide +kernel
theorem d_RO_slotOf_87 : decode b_RO_slotOf 87 = .ok (.lload_n 3, 1) := by decide +kernel
theorem d_RO_slotOf_88 : decode b_RO_slotOf 88 = .ok (.lcmp, 1) := by decide +kernel
theorem d_RO_slotOf_89 : decode b_RO_slotOf 89 = .ok (.ifCond .ne 6, 3) := by decide +kernel
theorem d_RO_slotOf_92 : decode b_RO_slotOf 92 = .ok (.iload 7, 2) := by decide +kernel
theorem d_RO_slotOf_94 : decode b_RO_slotOf 94 = .ok (.ireturn, 1) := by decide +kernel
theorem d_RO_slotOf_95 : decode b_RO_slotOf 95 = .ok (.iload 7, 2) := by decide +kernel
theorem d_RO_slotOf_97 : decode b_RO_slotOf 97 = .ok (.iconst 1, 1) := by decide +kernel
theorem d_RO_slotOf_98 : decode b_RO_slotOf 98 = .ok (.iadd, 1) := by decide +kernel
theorem d_RO_slotOf_99 : decode b_RO_slotOf 99 = .ok (.aload_n 0, 1) := by decide +kernel
theorem d_RO_slotOf_100 : decode b_RO_slotOf 100 = .ok (.getfield 22, 3) := by decide +kernel
theorem d_RO_slotOf_103 : decode b_RO_slotOf 103 = .ok (.iand, 1) := by decide +kernel
theorem d_RO_slotOf_104 : decode b_RO_slotOf 104 = .ok (.istore 7, 2) := by decide +kernel
theorem d_RO_slotOf_106 : decode b_RO_slotOf 106 = .ok (.iinc 8 1, 3) := by decide +kernel
theorem d_RO_slotOf_109 : decode b_RO_slotOf 109 = .ok (.goto (-66), 3) := by decide +kernel
theorem d_RO_slotOf_112 : decode b_RO_slotOf 112 = .ok (.iconst (-1), 1) := by decide +kernel
theorem d_RO_slotOf_113 : decode b_RO_slotOf 113 = .ok (.ireturn, 1) := by decide +kernel
theorem d_RO_widen_0 : decode b_RO_widen 0 = .ok (.aload_n 0, 1) := by decide +kernel
theorem d_RO_widen_1 : decode b_RO_widen 1 = .ok (.getfield 22, 3) := by decide +kernel
theorem d_RO_widen_4 : decode b_RO_widen 4 = .ok (.iconst 1, 1) := by decide +kernel
theorem d_RO_widen_5 : decode b_RO_widen 5 = .ok (.iadd, 1) := by decide +kernel
theorem d_RO_widen_6 : decode b_RO_widen 6 = .ok (.bipush 8, 2) := by decide +kernel
theorem d_RO_widen_8 : decode b_RO_widen 8 = .ok (.imul, 1) := by decide +kernel
theorem d_RO_widen_9 : decode b_RO_widen 9 = .ok (.istore_n 1, 1) := by decide +kernel
theorem d_RO_widen_10 : decode b_RO_widen 10 = .ok (.aload_n 0, 1) := by decide +kernel
theorem d_RO_widen_11 : decode b_RO_widen 11 = .ok (.getfield 18, 3) := by decide +kernel
theorem d_RO_widen_14 : decode b_RO_widen 14 = .ok (.arraylength, 1) := by decide +kernel
theorem d_RO_widen_15 : decode b_RO_widen 15 = .ok (.iload_n 1, 1) := by decide +kernel
theorem d_RO_widen_16 : decode b_RO_widen 16 = .ok (.if_icmp .ge 13, 3) := by decide +kernel
theorem d_RO_widen_19 : decode b_RO_widen 19 = .ok (.aload_n 0, 1) := by decide +kernel
theorem d_RO_widen_20 : decode b_RO_widen 20 = .ok (.iload_n 1, 1) := by decide +kernel
theorem d_RO_widen_21 : decode b_RO_widen 21 = .ok (.newarray .int, 2) := by decide +kernel
theorem d_RO_widen_23 : decode b_RO_widen 23 = .ok (.putfield 18, 3) := by decide +kernel
theorem d_RO_widen_26 : decode b_RO_widen 26 = .ok (.goto 13, 3) := by decide +kernel
theorem d_RO_widen_29 : decode b_RO_widen 29 = .ok (.aload_n 0, 1) := by decide +kernel
theorem d_RO_widen_30 : decode b_RO_widen 30 = .ok (.getfield 18, 3) := by decide +kernel
theorem d_RO_widen_33 : decode b_RO_widen 33 = .ok (.iconst 0, 1) := by decide +kernel
theorem d_RO_widen_34 : decode b_RO_widen 34 = .ok (.iload_n 1, 1) := by decide +kernel
theorem d_RO_widen_35 : decode b_RO_widen 35 = .ok (.iconst 0, 1) := by decide +kernel
theorem d_RO_widen_36 : decode b_RO_widen 36 = .ok (.invokestatic 33, 3) := by decide +kernel
theorem d_RO_widen_39 : decode b_RO_widen 39 = .ok (.aload_n 0, 1) := by decide +kernel
theorem d_RO_widen_40 : decode b_RO_widen 40 = .ok (.iload_n 1, 1) := by decide +kernel
theorem d_RO_widen_41 : decode b_RO_widen 41 = .ok (.iconst 1, 1) := by decide +kernel
theorem d_RO_widen_42 : decode b_RO_widen 42 = .ok (.isub, 1) := by decide +kernel
theorem d_RO_widen_43 : decode b_RO_widen 43 = .ok (.putfield 22, 3) := by decide +kernel
theorem d_RO_widen_46 : decode b_RO_widen 46 = .ok (.sipush 12000, 3) := by decide +kernel
theorem d_RO_widen_49 : decode b_RO_widen 49 = .ok (.iload_n 1, 1) := by decide +kernel
theorem d_RO_widen_50 : decode b_RO_widen 50 = .ok (.iconst 2, 1) := by decide +kernel
theorem d_RO_widen_51 : decode b_RO_widen 51 = .ok (.idiv, 1) := by decide +kernel
theorem d_RO_widen_52 : decode b_RO_widen 52 = .ok (.invokestatic 50, 3) := by decide +kernel
theorem d_RO_widen_55 : decode b_RO_widen 55 = .ok (.istore_n 2, 1) := by decide +kernel
theorem d_RO_widen_56 : decode b_RO_widen 56 = .ok (.aload_n 0, 1) := by decide +kernel
theorem d_RO_widen_57 : decode b_RO_widen 57 = .ok (.getfield 11, 3) := by decide +kernel
theorem d_RO_widen_60 : decode b_RO_widen 60 = .ok (.arraylength, 1) := by decide +kernel
theorem d_RO_widen_61 : decode b_RO_widen 61 = .ok (.iload_n 2, 1) := by decide +kernel
theorem d_RO_widen_62 : decode b_RO_widen 62 = .ok (.if_icmp .ge 27, 3) := by decide +kernel
theorem d_RO_widen_65 : decode b_RO_widen 65 = .ok (.aload_n 0, 1) := by decide +kernel
theorem d_RO_widen_66 : decode b_RO_widen 66 = .ok (.aload_n 0, 1) := by decide +kernel
theorem d_RO_widen_67 : decode b_RO_widen 67 = .ok (.getfield 11, 3) := by decide +kernel
theorem d_RO_widen_70 : decode b_RO_widen 70 = .ok (.iload_n 2, 1) := by decide +kernel
theorem d_RO_widen_71 : decode b_RO_widen 71 = .ok (.invokestatic 56, 3) := by decide +kernel
theorem d_RO_widen_74 : decode b_RO_widen 74 = .ok (.putfield 11, 3) := by decide +kernel
theorem d_RO_widen_77 : decode b_RO_widen 77 = .ok (.aload_n 0, 1) := by decide +kernel
theorem d_RO_widen_78 : decode b_RO_widen 78 = .ok (.aload_n 0, 1) := by decide +kernel
theorem d_RO_widen_79 : decode b_RO_widen 79 = .ok (.getfield 15, 3) := by decide +kernel
theorem d_RO_widen_82 : decode b_RO_widen 82 = .ok (.iload_n 2, 1) := by decide +kernel
theorem d_RO_widen_83 : decode b_RO_widen 83 = .ok (.invokestatic 56, 3) := by decide +kernel
theorem d_RO_widen_86 : decode b_RO_widen 86 = .ok (.putfield 15, 3) := by decide +kernel
theorem d_RO_widen_89 : decode b_RO_widen 89 = .ok (.iconst 0, 1) := by decide +kernel
theorem d_RO_widen_90 : decode b_RO_widen 90 = .ok (.istore_n 3, 1) := by decide +kernel
theorem d_RO_widen_91 : decode b_RO_widen 91 = .ok (.iload_n 3, 1) := by decide +kernel
theorem d_RO_widen_92 : decode b_RO_widen 92 = .ok (.aload_n 0, 1) := by decide +kernel
theorem d_RO_widen_93 : decode b_RO_widen 93 = .ok (.getfield 26, 3) := by decide +kernel
theorem d_RO_widen_96 : decode b_RO_widen 96 = .ok (.if_icmp .ge 43, 3) := by decide +kernel
theorem d_RO_widen_99 : decode b_RO_widen 99 = .ok (.aload_n 0, 1) := by decide +kernel
theorem d_RO_widen_100 : decode b_RO_widen 100 = .ok (.aload_n 0, 1) := by decide +kernel
theorem d_RO_widen_101 : decode b_RO_widen 101 = .ok (.getfield 11, 3) := by decide +kernel
theorem d_RO_widen_104 : decode b_RO_widen 104 = .ok (.iload_n 3, 1) := by decide +kernel
theorem d_RO_widen_105 : decode b_RO_widen 105 = .ok (.laload, 1) := by decide +kernel
theorem d_RO_widen_106 : decode b_RO_widen 106 = .ok (.aload_n 0, 1) := by decide +kernel
theorem d_RO_widen_107 : decode b_RO_widen 107 = .ok (.getfield 15, 3) := by decide +kernel
theorem d_RO_widen_110 : decode b_RO_widen 110 = .ok (.iload_n 3, 1) := by decide +kernel
theorem d_RO_widen_111 : decode b_RO_widen 111 = .ok (.laload, 1) := by decide +kernel
theorem d_RO_widen_112 : decode b_RO_widen 112 = .ok (.invokevirtual 39, 3) := by decide +kernel
theorem d_RO_widen_115 : decode b_RO_widen 115 = .ok (.istore 4, 2) := by decide +kernel
theorem d_RO_widen_117 : decode b_RO_widen 117 = .ok (.iload 4, 2) := by decide +kernel
theorem d_RO_widen_119 : decode b_RO_widen 119 = .ok (.iconst (-1), 1) := by decide +kernel
theorem d_RO_widen_120 : decode b_RO_widen 120 = .ok (.if_icmp .eq 13, 3) := by decide +kernel
theorem d_RO_widen_123 : decode b_RO_widen 123 = .ok (.aload_n 0, 1) := by decide +kernel
theorem d_RO_widen_124 : decode b_RO_widen 124 = .ok (.getfield 18, 3) := by decide +kernel
theorem d_RO_widen_127 : decode b_RO_widen 127 = .ok (.iload 4, 2) := by decide +kernel
theorem d_RO_widen_129 : decode b_RO_widen 129 = .ok (.iload_n 3, 1) := by decide +kernel
theorem d_RO_widen_130 : decode b_RO_widen 130 = .ok (.iconst 1, 1) := by decide +kernel
theorem d_RO_widen_131 : decode b_RO_widen 131 = .ok (.iadd, 1) := by decide +kernel
theorem d_RO_widen_132 : decode b_RO_widen 132 = .ok (.iastore, 1) := by decide +kernel
theorem d_RO_widen_133 : decode b_RO_widen 133 = .ok (.iinc 3 1, 3) := by decide +kernel
theorem d_RO_widen_136 : decode b_RO_widen 136 = .ok (.goto (-45), 3) := by decide +kernel
theorem d_RO_widen_139 : decode b_RO_widen 139 = .ok (.return_, 1) := by decide +kernel
